/**
 * Each sentence of the document's "Terms" that names a boundary case of TO DRAW, by seeds that were
 * looked for outside the class because they draw just that case.
 */
public final class TermsBoundaryTest {
    private static final int NONE = -1;

    private static int wrong = 0;
    private static String sentence = "";

    public static void main(String[] args) {
        nextOfOne();
        bitsRunOver();
        highestBitsAreNoSign();
        chanceBeginsAgain();
        smallestAndGreatestSize();
        firstRecordIsNoDouble();
        doubleOfTheFirstAndOfTheOneBefore();
        nothingElseIsDrawnOfADouble();
        shortestAndLongestTitle();
        yearNought();
        firstAndLastYear();
        firstAndLastLetter();
        fewestAndMostCopies();
        halfOfAllAndOneMore();
        behindTwoItIsNought();
        endsOfAPattern();
        endsOfALine();
        everyLoss();
        firstReaderHasNoGuardian();
        guardianThatHasOneItself();
        firstAndLastCard();
        onWhatOfTheSmallestAndGreatestSize();
        timeOfTheFirstAct();
        timeOfTheOneBefore();
        numbersStayWithinTheirEnds();
        System.out.println(wrong == 0 ? "all answers are as due" : wrong + " answers are not as due");
        if (wrong != 0) {
            System.exit(1);
        }
    }

    private static void due(String call, long got, long want) {
        if (got != want) {
            wrong++;
            System.out.println("'" + sentence + "': " + call + " answered " + got + ", due is " + want);
        }
    }

    /** The numbers of all parts, three of each; how many there are tells the size. */
    private static void parts(long seed, int kind, int... want) {
        int size = want.length / 3 - 1;
        LibraryDrawer x = new LibraryDrawer(seed);
        String at = "seed " + seed + ", draw(" + kind + ", " + size + ")";
        due(at, x.draw(kind, size), size + 1);
        for (int k = 0; k < want.length; k++) {
            due(at + ", part(" + k / 3 + ", " + k % 3 + ")", x.part(k / 3, k % 3), want[k]);
        }
    }

    private static void onePart(long seed, int kind, int size, int i, int... want) {
        LibraryDrawer x = new LibraryDrawer(seed);
        String at = "seed " + seed + ", draw(" + kind + ", " + size + ")";
        due(at, x.draw(kind, size), size + 1);
        for (int what = 0; what < want.length; what++) {
            due(at + ", part(" + i + ", " + what + ")", x.part(i, what), want[what]);
        }
    }

    private static void signs(long seed, int size, String want) {
        LibraryDrawer x = new LibraryDrawer(seed);
        String at = "seed " + seed + ", draw(0, " + size + ")";
        due(at, x.draw(0, size), size + 1);
        for (int i = 0; i < want.length(); i++) {
            due(at + ", letter(" + i + ")", x.letter(i), want.charAt(i));
        }
        due(at + ", letter(" + want.length() + ")", x.letter(want.length()), NONE);
    }

    /** What is drawn behind the NEXT 1 tells whether CHANCE went on. */
    private static void nextOfOne() {
        sentence = "NEXT n (n at least 1)";
        parts(13L, 0, 5, 0, -1, 5, 0, 0, 3, 1904, -1);
        signs(13L, 2, "jgqgj\njgqgj\nyfi\n");
        parts(1L, 4, 4, -1, 100, 4, 0, 117);
        parts(8L, 5, 2, 0, 0);
        parts(6L, 5, 5, 0, 1);
        parts(0L, 5, 5, 0, 4);
    }

    private static void bitsRunOver() {
        sentence = "(64 bits run over)";
        long most = Long.MAX_VALUE;
        parts(most, 0, 0, 1943, -1, 0, 1943, 0, 3, 0, -1);
        signs(most, 2, "\n\nszx\n");
        parts(most, 1, 4, 106, 0, 2, 9, 0, 5, 554, 0);
        parts(most, 2, 580, 36, 10, 749, 31, 21, 61, 20, 47);
        parts(most, 3, 2, 111, 0, 8, 516, 0, 3, 383, 0);
        parts(most, 4, 2, -1, 107, 0, -1, 111, 3, -1, 126);
        parts(most, 5, 0, 2, 1, 4, 1, 2, 5, 0, 2);
        long least = Long.MIN_VALUE;
        parts(least, 0, 3, 2002, -1, 3, 2002, 0, 4, 1906, -1);
        signs(least, 2, "xfu\nxfu\nhume\n");
        parts(least, 1, 5, 42, 0, 4, 146, 0, 2, 10, 0);
        parts(least, 2, 546, 45, 13, 383, 20, 2, 360, 8, 123);
        parts(least, 3, 7, 840, 0, 1, 425, 0, 9, 310, 0);
        parts(least, 4, 3, -1, 106, 0, 0, 112, 0, -1, 122);
        parts(least, 5, 0, 2, 0, 0, 0, 0, 5, 0, 2);
        // The last seed whose CHANCE begins without running over, and the first whose runs over.
        onePart(most - 2020, 0, 20, 20, 1, 0, -1);
        onePart(most - 2020 + 1, 0, 20, 20, 5, 0, -1);
        onePart(most - 5002035, 5, 20, 20, 3, 0, 47);
        onePart(most - 5002035 + 1, 5, 20, 20, 2, 4, 44);
        // The bits of a seed above its lowest 32 count too.
        parts(1L << 32, 5, 5, 0, 1, 0, 0, 2);
        parts(1L << 33, 5, 4, 0, 2, 1, 0, 6);
        parts(-(1L << 32), 5, 4, 1, 0, 3, 1, 1);
    }

    /** A sign that is kept would make numbers below 0; some half of all NEXTs would have one. */
    private static void highestBitsAreNoSign() {
        sentence = "its highest 31 bits, as a number, modulo n";
        parts(-1L, 2, 404, 40, 12, 573, 35, 9, 237, 16, 67);
        parts(-1L, 3, 1, 935, 0, 7, 340, 0, 4, 559, 0);
        onePart(-2020L, 0, 20, 20, 4, 2008, -1);
        onePart(-2021L, 0, 20, 20, 5, 1999, -1);
        onePart(-5002035L, 5, 20, 0, 5, 15, 2);
        onePart(-5002036L, 5, 20, 0, 4, 17, 2);
    }

    private static void chanceBeginsAgain() {
        sentence = "CHANCE is the seed and 1000003 times the KIND and 101 times the SIZE more";
        for (int kind = 0; kind < 6; kind++) {
            LibraryDrawer fresh = new LibraryDrawer(7L);
            LibraryDrawer x = new LibraryDrawer(7L);
            fresh.draw(kind, 7);
            x.draw(kind, 7);
            x.draw(kind, 20);
            x.draw(5 - kind, 0);
            x.same(8L, kind, 20);
            x.draw(kind, 21);
            x.draw(kind, 7);
            for (int k = 0; k < 24; k++) {
                due("draw(" + kind + ", 7) behind others, part(" + k / 3 + ", " + k % 3 + ")",
                        x.part(k / 3, k % 3), fresh.part(k / 3, k % 3));
            }
        }
    }

    private static void smallestAndGreatestSize() {
        sentence = "a SIZE 0 .. 20: SIZE + 1 PARTS";
        for (int kind = 0; kind < 6; kind++) {
            for (int size : new int[] {0, 1, 19, 20}) {
                LibraryDrawer x = new LibraryDrawer(3L);
                String at = "draw(" + kind + ", " + size + ")";
                due(at, x.draw(kind, size), size + 1);
                due(at + ", left(" + size + ")", x.left(size), size);
                due(at + ", left(" + (size + 1) + ")", x.left(size + 1), NONE);
            }
        }
    }

    /** The first number that seed 2 draws would be 0 as a NEXT 5. */
    private static void firstRecordIsNoDouble() {
        sentence = "a DOUBLE: if it is not the first";
        parts(2L, 0, 6, 1996, -1);
        signs(2L, 0, "mvlaap\n");
        for (long seed = 0; seed < 200; seed++) {
            LibraryDrawer x = new LibraryDrawer(seed);
            x.draw(0, 20);
            due("seed " + seed + ", draw(0, 20), part(0, 2)", x.part(0, 2), NONE);
        }
    }

    private static void doubleOfTheFirstAndOfTheOneBefore() {
        sentence = "NEXT of its own number (from 0 on): the record that it is like, else -1";
        parts(19L, 0, 3, 2013, -1, 3, 2013, 0);
        signs(19L, 1, "ddj\nddj\n");
        parts(0L, 0, 1, 1971, -1, 4, 1995, -1);
        signs(0L, 1, "r\nazco\n");
        onePart(85L, 0, 20, 20, 3, 1923, 19);
        onePart(73L, 0, 20, 20, 2, 1913, 0);
        parts(90L, 0, 6, 1953, -1, 6, 1953, 0, 6, 1953, 1, 6, 1953, 2);
        signs(90L, 3, "mckyds\nmckyds\nmckyds\nmckyds\n");
    }

    private static void nothingElseIsDrawnOfADouble() {
        sentence = "Of a DOUBLE what 0, 1 and the TITLE are those of that record, and nothing else is drawn";
        parts(13L, 0, 5, 0, -1, 5, 0, 0, 3, 1904, -1);
        signs(13L, 2, "jgqgj\njgqgj\nyfi\n");
        parts(23L, 0, 6, 1978, -1, 6, 0, -1, 6, 1978, 0);
        signs(23L, 2, "wohubt\nwsgkjg\nwohubt\n");
        parts(106L, 0, 0, 0, -1, 0, 0, 0);
        signs(106L, 1, "\n\n");
    }

    private static void shortestAndLongestTitle() {
        sentence = "how many letters its TITLE has, NEXT 7";
        parts(5L, 0, 0, 1934, -1);
        signs(5L, 0, "\n");
        parts(208L, 0, 6, 1935, -1);
        signs(208L, 0, "yaezxi\n");
        signs(1342L, 3, "\n\n\n\n");
        signs(40972598334L, 20, "ephxte\nnvruli\nnvruli\nephxte\nephxte\nnvruli\nibhrhl\nibhrhl\nbllekm\nbchkzl\n"
                + "ibhrhl\ndacspn\nqqojhu\ncpvgvc\ndacspn\nvlhkbl\nnvruli\nephxte\ndmdmmj\nnvruli\nnvruli\n");
    }

    /** The letters and the next record tell whether a NEXT 120 was drawn behind the 0. */
    private static void yearNought() {
        sentence = "its year: NEXT 8, and, unless that is 0 (then it is 0)";
        parts(2L, 0, 3, 0, -1, 5, 1933, -1);
        signs(2L, 1, "yep\ntamcv\n");
        parts(470L, 0, 1, 0, -1, 1, 0, 0, 1, 0, 1, 2, 0, -1);
        signs(470L, 3, "z\nz\nz\nbc\n");
    }

    private static void firstAndLastYear() {
        sentence = "1900 and NEXT 120";
        parts(39L, 0, 0, 1900, -1);
        parts(41L, 0, 3, 2019, -1);
        signs(41L, 0, "bvi\n");
    }

    private static void firstAndLastLetter() {
        sentence = "the letters, each a and NEXT 26 on";
        signs(208L, 0, "yaezxi\n");
        boolean a = false;
        boolean z = false;
        for (long seed = 0; seed < 400; seed++) {
            LibraryDrawer x = new LibraryDrawer(seed);
            x.draw(0, 2);
            for (int i = 0; x.letter(i) != NONE; i++) {
                int sign = x.letter(i);
                a |= sign == 'a';
                z |= sign == 'z';
                due("seed " + seed + ", letter(" + i + ") is a letter or 10",
                        sign == 10 || sign >= 'a' && sign <= 'z' ? 1 : 0, 1);
            }
        }
        due("some letter is an a", a ? 1 : 0, 1);
        due("some letter is a z", z ? 1 : 0, 1);
    }

    private static void fewestAndMostCopies() {
        sentence = "Of an even number: 1 and NEXT 5 copies; of an odd number: 2 and NEXT 4 copies";
        parts(16L, 1, 1, 0, 0);
        parts(12L, 1, 1, 1, 0);
        parts(7L, 1, 1, 2, 0);
        parts(3L, 1, 5, 405, 0);
        parts(0L, 1, 5, 106, 0, 2, 4, 0);
        parts(5L, 1, 2, 5, 0, 5, 292, 0);
    }

    private static void halfOfAllAndOneMore() {
        sentence = "the first of them, half of all (cut) and one more, have that, the others each NEXT 3";
        parts(7L, 1, 1, digits(2), 0);
        parts(6L, 1, 2, digits(2, 2), 0);
        parts(0L, 1, 3, digits(0, 0, 1), 0);
        parts(34L, 1, 3, digits(1, 1, 0), 0);
        parts(4L, 1, 4, digits(1, 1, 1, 2), 0);
        parts(20L, 1, 5, digits(2, 2, 2, 0, 1), 0);
    }

    private static int digits(int... copies) {
        int digits = 0;
        for (int k = copies.length - 1; k >= 0; k--) {
            digits = 4 * digits + copies[k];
        }
        return digits;
    }

    private static void behindTwoItIsNought() {
        sentence = "each further one has the next digest (behind 2 it is 0)";
        onePart(0L, 1, 1, 1, 2, digits(0, 1), 0);
        onePart(6L, 1, 1, 1, 2, digits(1, 2), 0);
        onePart(3L, 1, 1, 1, 2, digits(2, 0), 0);
        onePart(13L, 1, 1, 1, 3, digits(0, 1, 2), 0);
        onePart(1L, 1, 1, 1, 3, digits(1, 2, 0), 0);
        onePart(54L, 1, 1, 1, 3, digits(2, 0, 1), 0);
        onePart(2L, 1, 1, 1, 4, digits(0, 1, 2, 0), 0);
        onePart(25L, 1, 1, 1, 4, digits(1, 2, 0, 1), 0);
        onePart(39L, 1, 1, 1, 4, digits(2, 0, 1, 2), 0);
        onePart(5L, 1, 1, 1, 5, digits(0, 1, 2, 0, 1), 0);
        onePart(14L, 1, 1, 1, 5, digits(1, 2, 0, 1, 2), 0);
        onePart(20L, 1, 1, 1, 5, digits(2, 0, 1, 2, 0), 0);
    }

    private static void endsOfAPattern() {
        sentence = "NEXT 1000; 1 and NEXT 60; 1 and NEXT of (1500 less the day, divided by the step, cut, and 1)";
        parts(8788L, 2, 0, 21, 54);
        parts(3214L, 2, 999, 54, 2);
        parts(27L, 2, 87, 1, 338);
        parts(38L, 2, 128, 60, 15);
        parts(24L, 2, 835, 42, 1);
        // As many issues as there can be: one more would be behind day 1500.
        parts(0L, 2, 819, 26, 27);
        parts(497L, 2, 436, 56, 20);
        parts(28787L, 2, 472, 1, 1029);
    }

    private static void endsOfALine() {
        sentence = "the size, 1 and NEXT 9; the sum, NEXT 1000";
        parts(3L, 3, 1, 432, 0);
        parts(79L, 3, 9, 748, 0);
        parts(59L, 3, 7, 0, 2);
        parts(1055L, 3, 7, 999, 0);
    }

    private static void everyLoss() {
        sentence = "a LOSS: if NEXT 4 is 0, 1 and NEXT 3 (missing, spoilt, too much), else 0";
        parts(0L, 3, 4, 541, 0);
        parts(6L, 3, 7, 971, 1);
        parts(5L, 3, 1, 890, 2);
        parts(14L, 3, 1, 859, 3);
        parts(2646L, 3, 2, 889, 3, 4, 165, 1, 3, 727, 2, 8, 943, 1, 7, 684, 3);
    }

    /** The second number that seed 0 draws would be 0 as a NEXT 3. */
    private static void firstReaderHasNoGuardian() {
        sentence = "a guardian: if it is not the first";
        parts(0L, 4, 1, -1, 108);
        for (long seed = 0; seed < 200; seed++) {
            LibraryDrawer x = new LibraryDrawer(seed);
            x.draw(4, 20);
            due("seed " + seed + ", draw(4, 20), part(0, 1)", x.part(0, 1), NONE);
        }
    }

    private static void guardianThatHasOneItself() {
        sentence = "NEXT of its own number, if that reader has none itself; else -1";
        parts(1L, 4, 4, -1, 100, 4, 0, 117);
        parts(0L, 4, 3, -1, 109, 4, -1, 116);
        // Reader 2 draws reader 1, who has one; then reader 3 draws reader 2, who so has none.
        parts(4L, 4, 3, -1, 100, 4, 0, 115, 3, -1, 123);
        parts(49L, 4, 4, -1, 105, 4, 0, 116, 3, -1, 122, 3, 2, 130);
        // Reader 2 draws reader 0, who has none though it is another's guardian.
        parts(7L, 4, 0, -1, 109, 2, 0, 115, 1, 0, 123);
        onePart(71L, 4, 20, 20, 4, 19, 302);
        onePart(182L, 4, 20, 20, 0, 0, 305);
        parts(10516L, 4, 3, -1, 105, 4, 0, 110, 4, 0, 129, 1, 0, 135, 0, 0, 146);
    }

    private static void firstAndLastCard() {
        sentence = "the kind, NEXT 5; a card: 100, 10 times its number, and NEXT 10";
        parts(4L, 4, 0, -1, 108);
        parts(2L, 4, 4, -1, 108);
        parts(42L, 4, 3, -1, 100);
        parts(1L, 4, 3, -1, 109);
        onePart(0L, 4, 20, 20, 0, 1, 300);
        onePart(44L, 4, 20, 20, 4, -1, 309);
    }

    private static void onWhatOfTheSmallestAndGreatestSize() {
        sentence = "which, NEXT 6; on what, NEXT (SIZE + 1)";
        parts(1L, 5, 0, 0, 4);
        parts(0L, 5, 5, 0, 4);
        parts(2L, 5, 2, 1, 0, 1, 0, 2);
        onePart(2L, 5, 20, 0, 1, 20, 3);
        onePart(27L, 5, 20, 0, 1, 0, 2);
    }

    private static void timeOfTheFirstAct() {
        sentence = "when: the time of the one before (0 of the first one's)";
        parts(8L, 5, 2, 0, 0);
        parts(6L, 5, 5, 0, 1);
        parts(0L, 5, 5, 0, 4);
        // An act of what was drawn before is not "the one before".
        LibraryDrawer x = new LibraryDrawer(9L);
        x.draw(5, 20);
        due("seed 9, draw(5, 20), part(0, 2)", x.part(0, 2), 4);
        x.draw(5, 0);
        due("seed 9, draw(5, 0) behind it, part(0, 2)", x.part(0, 2), 0);
        x.draw(5, 20);
        due("seed 9, draw(5, 20) again, part(0, 2)", x.part(0, 2), 4);
    }

    private static void timeOfTheOneBefore() {
        sentence = "when: the time of the one before and NEXT 5 more";
        parts(28L, 5, 5, 1, 3, 2, 0, 3);
        parts(3L, 5, 5, 0, 0, 3, 1, 1);
        parts(1376L, 5, 1, 1, 0, 5, 0, 0, 4, 4, 0, 0, 4, 0, 5, 3, 0);
        parts(5517L, 5, 3, 4, 4, 4, 2, 8, 0, 0, 12, 0, 3, 16, 1, 3, 20);
        onePart(2L, 5, 20, 20, 1, 0, 41);
    }

    /** Over many seeds each number reaches its least and its most, and never more than these. */
    private static void numbersStayWithinTheirEnds() {
        sentence = "each by NEXTs";
        reaches(0, 0, 0, 6);
        reaches(0, 1, 0, 2019);
        reaches(0, 2, -1, 19);
        reaches(1, 0, 1, 5);
        reaches(1, 1, 0, digits(2, 2, 2, 2, 2));
        reaches(1, 2, 0, 0);
        reaches(2, 0, 0, 999);
        reaches(2, 1, 1, 60);
        reaches(3, 0, 1, 9);
        reaches(3, 1, 0, 999);
        reaches(3, 2, 0, 3);
        reaches(4, 0, 0, 4);
        reaches(4, 1, -1, 19);
        reaches(4, 2, 100, 309);
        reaches(5, 0, 0, 5);
        reaches(5, 1, 0, 20);
    }

    private static void reaches(int kind, int what, int wantLeast, int wantMost) {
        int least = Integer.MAX_VALUE;
        int most = Integer.MIN_VALUE;
        for (long seed = -1000; seed < 1000; seed++) {
            LibraryDrawer x = new LibraryDrawer(seed);
            x.draw(kind, 20);
            for (int i = 0; i <= 20; i++) {
                least = Math.min(least, x.part(i, what));
                most = Math.max(most, x.part(i, what));
            }
        }
        due("kind " + kind + ", the least of what " + what, least, wantLeast);
        due("kind " + kind + ", the most of what " + what, most, wantMost);
    }
}
