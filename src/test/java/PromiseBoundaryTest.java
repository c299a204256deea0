import java.util.ArrayList;
import java.util.LinkedHashMap;
import java.util.List;
import java.util.Map;
import java.util.function.Consumer;

/**
 * Each sentence of the promises that names a boundary case: the last input that is allowed and the
 * first that is not, the empty and the full, and calls that are refused and so change nothing.
 */
public final class PromiseBoundaryTest {
    private static final int NONE = -1;
    private static final int LEAST = Integer.MIN_VALUE;
    private static final int MOST = Integer.MAX_VALUE;
    private static final int ALL_21 = (1 << 21) - 1;
    /** Its 21 records have 6 letters each: no case has more signs. */
    private static final long SEED_OF_MOST_SIGNS = 40972598334L;

    private static int wrong = 0;
    private static String sentence = "";

    public static void main(String[] args) {
        nothingIsDrawn();
        rowsToldBeforeADrawAreLost();
        kindOrSizeThatCantBe();
        drawThatCantBeChangesNothing();
        drawLeavesAllAndForgetsRows();
        partThatThereIsNot();
        whatThatThereIsNot();
        numberThatIsItselfNone();
        letterPastTheEnd();
        letterOfTheFewestAndMostSigns();
        lettersOfKindNoughtAlone();
        majorityOfJustHalf();
        majorityOfJustMoreThanHalf();
        fileThatThereIsNot();
        patternThatEndsOnTheLastDay();
        patternThatThereIsNot();
        plantedNoneAndAll();
        plantedJustOnTheLastDay();
        plantedFirstAct();
        plantedOfAnotherWhat();
        plantedCountsWhatWasDrawn();
        partsThatThereAreNot();
        beyondSixOfEach();
        rowsWithoutParts();
        verdictStaysForOneRowAtLeast();
        togetherSomeButNotAll();
        smallerCaseFromTheGreatestDown();
        nothingIsLeftOut();
        shorterOfTheEmptyAndTheFull();
        leftBeforeTheFirstAndPastTheLast();
        minimalOfNoneOneAndAll();
        notWithoutAnySingleOne();
        sameOfWhatCantBe();
        sameOfTheFirstAndLastSeeds();
        sameInAll();
        sameButForTheFirstOrTheLast();
        whatWasDrawnStays();
        callsThatOnlyAskChangeNothing();
        the512thCall();
        System.out.println(wrong == 0 ? "all answers are as due" : wrong + " answers are not as due");
        if (wrong != 0) {
            System.exit(1);
        }
    }

    private static void due(String call, Object got, Object want) {
        if (!got.equals(want)) {
            wrong++;
            System.out.println("'" + sentence + "': " + call + " answered " + got + ", due is " + want);
        }
    }

    private static LibraryDrawer drawn(long seed, int kind, int size) {
        LibraryDrawer x = new LibraryDrawer(seed);
        due("draw(" + kind + ", " + size + ")", x.draw(kind, size), size + 1);
        return x;
    }

    private static void left(String at, LibraryDrawer x, int... want) {
        due(at + ", shorter()", x.shorter(), want.length);
        for (int i = 0; i < want.length; i++) {
            due(at + ", left(" + i + ")", x.left(i), want[i]);
        }
        due(at + ", left(" + want.length + ")", x.left(want.length), NONE);
    }

    private static int[] upTo(int last) {
        int[] all = new int[last + 1];
        for (int i = 0; i <= last; i++) {
            all[i] = i;
        }
        return all;
    }

    // What refused calls leave as it was: two objects, of which one has had the call and the other not.

    private static Map<String, Consumer<LibraryDrawer>> states() {
        Map<String, Consumer<LibraryDrawer>> states = new LinkedHashMap<>();
        states.put("new", x -> { });
        for (int kind = 0; kind < 6; kind++) {
            int k = kind;
            states.put("drawn " + k, x -> x.draw(k, 7));
            states.put("drawn " + k + ", one part", x -> x.draw(k, 0));
            states.put("drawn " + k + ", rows told", x -> {
                x.draw(k, 20);
                fiveRowsOfEach(x);
            });
            states.put("drawn " + k + ", made smaller", x -> {
                x.draw(k, 20);
                fiveRowsOfEach(x);
                x.shorter();
            });
        }
        states.put("six rows of each", x -> {
            x.draw(3, 9);
            fiveRowsOfEach(x);
            x.verdict(0b11000, true);
            x.verdict(0b10000100, false);
            x.shorter();
        });
        return states;
    }

    private static void fiveRowsOfEach(LibraryDrawer x) {
        for (int k = 0; k < 5; k++) {
            x.verdict(0b111000 << k % 2, true);
            x.verdict(0b11, false);
        }
    }

    private static void unchangedBy(String call, Consumer<LibraryDrawer> refused) {
        for (Map.Entry<String, Consumer<LibraryDrawer>> state : states().entrySet()) {
            LibraryDrawer one = new LibraryDrawer(7L);
            LibraryDrawer other = new LibraryDrawer(7L);
            state.getValue().accept(one);
            state.getValue().accept(other);
            refused.accept(one);
            due(state.getKey() + ", the answers behind " + call, laterAnswers(one), laterAnswers(other));
        }
    }

    /** Answers that show all of an object's state; some 400 calls. */
    private static List<Integer> laterAnswers(LibraryDrawer x) {
        List<Integer> answers = new ArrayList<>();
        addDrawn(answers, x);
        addLeft(answers, x);
        answers.add(x.shorter());
        addLeft(answers, x);
        x.verdict(0b10, true);
        x.verdict(0b1010, false);
        answers.add(x.shorter());
        addLeft(answers, x);
        x.verdict(0, true);
        x.verdict(0b100010, false);
        answers.add(x.shorter());
        addLeft(answers, x);
        answers.add(x.draw(4, 2));
        answers.add(x.part(2, 2));
        answers.add(x.shorter());
        return answers;
    }

    private static void addDrawn(List<Integer> answers, LibraryDrawer x) {
        for (int i = 0; i <= 21; i++) {
            for (int what = 0; what < 3; what++) {
                answers.add(x.part(i, what));
            }
            answers.add(x.majority(i));
            answers.add(x.ends(i) ? 1 : 0);
        }
        for (int i = 0; i < 148; i++) {
            answers.add(x.letter(i));
        }
        for (int what = 0; what < 8; what++) {
            answers.add(x.planted(what));
        }
    }

    private static void addLeft(List<Integer> answers, LibraryDrawer x) {
        for (int i = 0; i <= 21; i++) {
            answers.add(x.left(i));
        }
        answers.add(x.minimal() ? 1 : 0);
    }

    // Promise 1

    private static void nothingIsDrawn() {
        sentence = "Promise 1: Nothing is drawn.";
        for (long seed : new long[] {0L, 1L, -1L, Long.MIN_VALUE, Long.MAX_VALUE, SEED_OF_MOST_SIGNS}) {
            for (int i : new int[] {LEAST, -1, 0, 1, 20, 21, MOST}) {
                LibraryDrawer x = new LibraryDrawer(seed);
                for (int what = -1; what <= 3; what++) {
                    due("part(" + i + ", " + what + ")", x.part(i, what), NONE);
                }
                due("letter(" + i + ")", x.letter(i), NONE);
                due("majority(" + i + ")", x.majority(i), NONE);
                due("ends(" + i + ")", x.ends(i), false);
                due("left(" + i + ")", x.left(i), NONE);
            }
            LibraryDrawer x = new LibraryDrawer(seed);
            for (int what = -1; what <= 8; what++) {
                due("planted(" + what + ")", x.planted(what), what < 0 || what > 7 ? NONE : 0);
            }
            due("minimal()", x.minimal(), false);
            due("shorter()", x.shorter(), 0);
            due("left(0) behind shorter()", x.left(0), NONE);
            due("minimal() behind shorter()", x.minimal(), false);
        }
    }

    /** Seven rows of each that are lost leave room for six of each. */
    private static void rowsToldBeforeADrawAreLost() {
        sentence = "Promise 8: it is lost, as when nothing is drawn";
        LibraryDrawer x = new LibraryDrawer(7L);
        for (int k = 0; k < 7; k++) {
            x.verdict(0, true);
            x.verdict(0b11, false);
            due("minimal() of a new object with lost rows", x.minimal(), false);
            due("shorter() of a new object with lost rows", x.shorter(), 0);
        }
        due("draw(6, 0)", x.draw(6, 0), NONE);
        x.verdict(0, true);
        due("draw(3, 3)", x.draw(3, 3), 4);
        left("rows told before", x, 0, 1, 2, 3);
        due("minimal()", x.minimal(), false);
        for (int k = 0; k < 5; k++) {
            x.verdict(0b1111, true);
            x.verdict(0, false);
        }
        x.verdict(0b0001, true);
        left("a sixth needed row", x, 0);
        x.verdict(0b1001, false);
        left("a sixth row together", x, 0, 3);
    }

    // Promise 2

    private static final int[][] CANT_BE = {{-1, 0}, {-1, 20}, {6, 0}, {6, 20}, {0, -1}, {5, -1}, {0, 21}, {5, 21},
        {-1, -1}, {6, 21}, {LEAST, 0}, {MOST, 0}, {0, LEAST}, {0, MOST}, {LEAST, LEAST}, {MOST, MOST},
        {256, 0}, {0, 256}, {1 << 16, 1 << 16}};

    private static void kindOrSizeThatCantBe() {
        sentence = "Promise 2: NONE, and nothing happens, if the KIND or SIZE can't be.";
        for (int kind = -2; kind <= 7; kind++) {
            for (int size = -2; size <= 22; size++) {
                boolean can = kind >= 0 && kind <= 5 && size >= 0 && size <= 20;
                LibraryDrawer x = new LibraryDrawer(7L);
                due("draw(" + kind + ", " + size + ")", x.draw(kind, size), can ? size + 1 : NONE);
            }
        }
        for (int[] c : CANT_BE) {
            due("draw(" + c[0] + ", " + c[1] + ")", new LibraryDrawer(7L).draw(c[0], c[1]), NONE);
        }
    }

    private static void drawThatCantBeChangesNothing() {
        sentence = "Promise 2: NONE, and nothing happens, if the KIND or SIZE can't be.";
        for (int[] c : CANT_BE) {
            unchangedBy("draw(" + c[0] + ", " + c[1] + ")", x -> x.draw(c[0], c[1]));
        }
        unchangedBy("all of them", x -> {
            for (int[] c : CANT_BE) {
                x.draw(c[0], c[1]);
            }
        });
    }

    private static void drawLeavesAllAndForgetsRows() {
        sentence = "Promise 2: all PARTS are LEFT, no rows are told";
        LibraryDrawer x = drawn(7L, 3, 20);
        for (int k = 0; k < 7; k++) {
            x.verdict(0, true);
            x.verdict(0b11, false);
        }
        left("six rows of each", x, 0, 1);
        due("draw(3, 20) again", x.draw(3, 20), 21);
        due("left(0)", x.left(0), 0);
        due("left(20)", x.left(20), 20);
        due("minimal(), as no row is needed", x.minimal(), false);
        left("no rows", x, upTo(20));
        x.verdict(0b1, true);
        left("a new needed row and none together", x, 0);
        due("draw(3, 0), fewer parts", x.draw(3, 0), 1);
        left("no rows, one part", x, 0);
        due("draw(3, 20), more parts", x.draw(3, 20), 21);
        left("no rows, all parts", x, upTo(20));
    }

    // Promise 3

    private static void partThatThereIsNot() {
        sentence = "Promise 3: NONE if there is none such";
        for (int kind = 0; kind < 6; kind++) {
            for (int size : new int[] {0, 1, 7, 19, 20}) {
                LibraryDrawer x = drawn(7L, kind, 20);
                x.draw(kind, size);
                String at = "kind " + kind + ", size " + size + ", ";
                for (int what = 0; what < 3; what++) {
                    for (int i : new int[] {LEAST, LEAST + 1, -2, -1, size + 1, size + 2, 21, 22, 63, MOST - 1, MOST}) {
                        due(at + "part(" + i + ", " + what + ")", x.part(i, what), NONE);
                    }
                }
            }
        }
        LibraryDrawer x = drawn(7L, 3, 7);
        due("part(0, 0)", x.part(0, 0), 7);
        due("part(7, 0)", x.part(7, 0), 3);
        due("part(7, 1)", x.part(7, 1), 485);
        due("part(7, 2)", x.part(7, 2), 0);
        due("part(8, 2)", x.part(8, 2), NONE);
        LibraryDrawer y = drawn(489L, 3, 20);
        due("part(20, 0)", y.part(20, 0), 1);
        due("part(20, 1)", y.part(20, 1), 342);
        due("part(20, 2)", y.part(20, 2), 3);
    }

    private static void whatThatThereIsNot() {
        sentence = "Promise 3: NONE .. for another what";
        for (int kind = 0; kind < 6; kind++) {
            LibraryDrawer x = drawn(7L, kind, 20);
            for (int i : new int[] {0, 1, 19, 20}) {
                for (int what : new int[] {LEAST, -3, -2, -1, 3, 4, 5, 6, MOST}) {
                    due("kind " + kind + ", part(" + i + ", " + what + ")", x.part(i, what), NONE);
                }
            }
        }
    }

    /** A record that is no DOUBLE and one that there is not are told apart by what 0 alone. */
    private static void numberThatIsItselfNone() {
        sentence = "Promise 3: (a number itself may be -1)";
        LibraryDrawer x = drawn(19L, 0, 1);
        due("part(0, 2), no DOUBLE", x.part(0, 2), -1);
        due("part(1, 2), a DOUBLE of the first", x.part(1, 2), 0);
        due("part(2, 2), no such part", x.part(2, 2), NONE);
        LibraryDrawer y = drawn(1L, 4, 1);
        due("part(0, 1), no guardian", y.part(0, 1), -1);
        due("part(1, 1), the first is guardian", y.part(1, 1), 0);
        due("part(2, 1), no such part", y.part(2, 1), NONE);
    }

    // Promise 4

    private static void letterPastTheEnd() {
        sentence = "Promise 4: NONE past the end";
        LibraryDrawer x = drawn(SEED_OF_MOST_SIGNS, 0, 20);
        x.draw(0, 0);
        int end = x.part(0, 0);
        due("letter(" + end + "), the end of the only TITLE", x.letter(end), 10);
        for (int i : new int[] {LEAST, -2, -1, end + 1, end + 2, 146, 147, MOST}) {
            due("letter(" + i + ")", x.letter(i), NONE);
        }
        LibraryDrawer y = drawn(23L, 0, 2);
        due("letter(6), behind the first TITLE", y.letter(6), 10);
        due("letter(19), the last letter", y.letter(19), (int) 't');
        due("letter(20), behind the last TITLE", y.letter(20), 10);
        due("letter(21)", y.letter(21), NONE);
    }

    private static void letterOfTheFewestAndMostSigns() {
        sentence = "Promise 4: Sign i of all TITLES of what was drawn, in order, a sign 10 behind each";
        LibraryDrawer fewest = drawn(5L, 0, 0);
        due("letter(0), the end of a TITLE without letters", fewest.letter(0), 10);
        due("letter(1)", fewest.letter(1), NONE);
        LibraryDrawer empty = drawn(1342L, 0, 3);
        for (int i = 0; i < 4; i++) {
            due("letter(" + i + ") of four empty TITLES", empty.letter(i), 10);
        }
        due("letter(4) of four empty TITLES", empty.letter(4), NONE);
        LibraryDrawer most = drawn(SEED_OF_MOST_SIGNS, 0, 20);
        for (int i = 0; i < 21; i++) {
            due("letter(" + (7 * i + 6) + ")", most.letter(7 * i + 6), 10);
        }
        due("letter(0)", most.letter(0), (int) 'e');
        due("letter(140)", most.letter(140), (int) 'n');
        due("letter(145)", most.letter(145), (int) 'i');
        due("letter(147)", most.letter(147), NONE);
        due("letter(148)", most.letter(148), NONE);
        due("draw(0, 20) again", most.draw(0, 20), 21);
        due("letter(146)", most.letter(146), 10);
    }

    private static void lettersOfKindNoughtAlone() {
        sentence = "Promise 4: (KIND 0 alone has some)";
        for (int kind = 1; kind < 6; kind++) {
            for (int size : new int[] {0, 20}) {
                LibraryDrawer x = drawn(SEED_OF_MOST_SIGNS, 0, 20);
                x.draw(kind, size);
                for (int i : new int[] {-1, 0, 1, 6, 20, 146, 147}) {
                    due("kind " + kind + ", letter(" + i + ")", x.letter(i), NONE);
                }
                x.draw(0, 20);
                due("letter(0), of KIND 0 again", x.letter(0), (int) 'e');
            }
        }
    }

    // Promise 5

    /** Of an odd file with 2 or 4 copies a digest has just half of them at most. */
    private static void majorityOfJustHalf() {
        sentence = "Promise 5: The digest that more than half of the copies of a FILE have; NONE if none has";
        majorityOfSecond(0L, NONE);
        majorityOfSecond(6L, NONE);
        majorityOfSecond(3L, NONE);
        majorityOfSecond(13L, NONE);
        majorityOfSecond(2L, NONE);
        majorityOfSecond(25L, NONE);
        majorityOfSecond(39L, NONE);
        majorityOfSecond(5L, NONE);
        majorityOfSecond(14L, NONE);
        majorityOfSecond(20L, NONE);
    }

    private static void majorityOfSecond(long seed, int want) {
        due("seed " + seed + ", majority(1)", drawn(seed, 1, 1).majority(1), want);
    }

    private static void majorityOfJustMoreThanHalf() {
        sentence = "Promise 5: The digest that more than half of the copies of a FILE have";
        long[] seeds = {16, 12, 7, 6, 0, 34, 4, 3, 20};
        int[] want = {0, 1, 2, 2, 0, 1, 1, 1, 2};
        for (int k = 0; k < seeds.length; k++) {
            due("seed " + seeds[k] + ", majority(0)", drawn(seeds[k], 1, 0).majority(0), want[k]);
        }
    }

    private static void fileThatThereIsNot() {
        sentence = "Promise 5: NONE if .. there is no such FILE";
        for (int size : new int[] {0, 2, 20}) {
            LibraryDrawer x = drawn(7L, 1, 20);
            x.draw(1, size);
            due("majority(0) is one", x.majority(0) != NONE, true);
            due("majority(" + size + ") is one", x.majority(size) != NONE, true);
            for (int i : new int[] {LEAST, -2, -1, size + 1, size + 2, 21, 22, MOST}) {
                due("size " + size + ", majority(" + i + ")", x.majority(i), NONE);
            }
        }
        for (int kind : new int[] {0, 2, 3, 4, 5}) {
            LibraryDrawer x = drawn(7L, 1, 20);
            x.draw(kind, 20);
            for (int i = 0; i <= 20; i++) {
                due("kind " + kind + ", majority(" + i + ")", x.majority(i), NONE);
            }
        }
    }

    // Promise 6

    private static void patternThatEndsOnTheLastDay() {
        sentence = "Promise 6: Whether a PATTERN's last issue is not behind day 1500";
        due("ends(0), the last issue on day 1500", drawn(497L, 2, 0).ends(0), true);
        due("ends(0), on day 1500 by steps of 1", drawn(28787L, 2, 0).ends(0), true);
        due("ends(0), the last issue on day 1499", drawn(443L, 2, 0).ends(0), true);
        due("ends(0), one issue alone", drawn(24L, 2, 0).ends(0), true);
        for (long seed = 0; seed < 300; seed++) {
            LibraryDrawer x = drawn(seed, 2, 20);
            for (int i = 0; i <= 20; i++) {
                int last = x.part(i, 0) + (x.part(i, 2) - 1) * x.part(i, 1);
                due("seed " + seed + ", ends(" + i + ")", x.ends(i), last <= 1500);
            }
        }
    }

    private static void patternThatThereIsNot() {
        sentence = "Promise 6: false if there is no such PATTERN.";
        for (int size : new int[] {0, 1, 19, 20}) {
            LibraryDrawer x = drawn(7L, 2, 20);
            x.draw(2, size);
            due("size " + size + ", ends(0)", x.ends(0), true);
            due("size " + size + ", ends(" + size + ")", x.ends(size), true);
            for (int i : new int[] {LEAST, -2, -1, size + 1, size + 2, 21, 22, MOST}) {
                due("size " + size + ", ends(" + i + ")", x.ends(i), false);
            }
        }
        for (int kind : new int[] {0, 1, 3, 4, 5}) {
            LibraryDrawer x = drawn(7L, 2, 20);
            x.draw(kind, 20);
            for (int i = 0; i <= 20; i++) {
                due("kind " + kind + ", ends(" + i + ")", x.ends(i), false);
            }
        }
    }

    // Promise 7

    private static void planted(long seed, int kind, int size, int what, int want) {
        due("seed " + seed + ", draw(" + kind + ", " + size + "), planted(" + what + ")",
                drawn(seed, kind, size).planted(what), want);
    }

    private static void plantedNoneAndAll() {
        sentence = "Promise 7: How many PARTS were drawn with what";
        planted(369L, 0, 12, 0, 0);
        planted(369L, 0, 12, 1, 0);
        planted(369L, 0, 12, 2, 0);
        planted(1342L, 0, 3, 0, 4);
        planted(470L, 0, 3, 1, 4);
        planted(93L, 0, 20, 2, 0);
        planted(3843L, 0, 4, 2, 4);
        planted(7L, 1, 0, 3, 0);
        planted(7L, 1, 1, 3, 1);
        planted(7L, 1, 19, 3, 10);
        planted(7L, 1, 20, 3, 10);
        planted(7L, 3, 20, 5, 0);
        planted(489L, 3, 20, 5, 1);
        planted(2646L, 3, 4, 5, 5);
        planted(821L, 4, 20, 6, 0);
        planted(23L, 4, 8, 6, 1);
        planted(10516L, 4, 4, 6, 4);
        planted(17L, 5, 12, 7, 0);
        planted(1376L, 5, 4, 7, 5);
        planted(5517L, 5, 4, 7, 0);
    }

    private static void plantedJustOnTheLastDay() {
        sentence = "Promise 7: 4: a PATTERN that ends just on day 1500";
        planted(443L, 2, 0, 4, 0);
        planted(0L, 2, 0, 4, 0);
        planted(497L, 2, 0, 4, 1);
        planted(28787L, 2, 0, 4, 1);
        planted(94L, 2, 20, 4, 0);
        planted(793L, 2, 20, 4, 1);
        planted(8968L, 2, 5, 4, 2);
    }

    private static void plantedFirstAct() {
        sentence = "Promise 7: 7: an act at the time of the one before (or, the first one, at 0)";
        planted(8L, 5, 0, 7, 1);
        planted(6L, 5, 0, 7, 0);
        planted(28L, 5, 1, 7, 1);
        planted(3L, 5, 1, 7, 1);
        planted(123L, 5, 1, 7, 0);
    }

    private static void plantedOfAnotherWhat() {
        sentence = "Promise 7: NONE for another what.";
        int[] kindOf = {0, 0, 0, 1, 2, 3, 4, 5};
        for (int kind = 0; kind < 6; kind++) {
            LibraryDrawer x = drawn(7L, kind, 20);
            for (int what : new int[] {LEAST, -2, -1, 8, 9, 16, MOST}) {
                due("kind " + kind + ", planted(" + what + ")", x.planted(what), NONE);
            }
            for (int what = 0; what < 8; what++) {
                due("kind " + kind + ", planted(" + what + ") is NONE", x.planted(what) == NONE, false);
                if (kindOf[what] != kind) {
                    due("kind " + kind + ", planted(" + what + ")", x.planted(what), 0);
                }
            }
        }
    }

    /** What is left out was drawn all the same. */
    private static void plantedCountsWhatWasDrawn() {
        sentence = "Promise 7: How many PARTS were drawn";
        long[] seeds = {1342L, 470L, 3843L, 7L, 497L, 2646L, 10516L, 1376L};
        int[] kinds = {0, 0, 0, 1, 2, 3, 4, 5};
        int[] sizes = {3, 3, 4, 20, 0, 4, 4, 4};
        int[] want = {4, 4, 4, 10, 1, 5, 4, 5};
        for (int what = 0; what < 8; what++) {
            LibraryDrawer x = drawn(seeds[what], kinds[what], sizes[what]);
            x.verdict(0, true);
            left("none needed", x);
            due("kind " + kinds[what] + ", planted(" + what + "), none left", x.planted(what), want[what]);
        }
        LibraryDrawer y = drawn(23L, 0, 2);
        y.verdict(0, true);
        y.shorter();
        due("letter(20), none left", y.letter(20), 10);
        due("part(2, 2), none left", y.part(2, 2), 0);
        due("draw(1, 2)", y.draw(1, 2), 3);
        y.verdict(0, true);
        y.shorter();
        due("majority(2) is one, none left", y.majority(2) != NONE, true);
        due("draw(2, 2)", y.draw(2, 2), 3);
        y.verdict(0, true);
        y.shorter();
        due("ends(2), none left", y.ends(2), true);
    }

    // Promise 8

    private static void partsThatThereAreNot() {
        sentence = "Promise 8: PARTS that there are not are passed over";
        for (int size : new int[] {0, 1, 5, 19, 20}) {
            int last = 1 << size;
            LibraryDrawer x = drawn(7L, 3, size);
            x.verdict(last, true);
            left("size " + size + ", the last part is needed", x, size);
            x.draw(3, size);
            x.verdict(last | last << 1, true);
            left("size " + size + ", and one more, that there is not", x, size);
            x.draw(3, size);
            x.verdict(last << 1, true);
            left("size " + size + ", one that there is not alone", x);
            x.draw(3, size);
            x.verdict(LEAST, true);
            left("size " + size + ", bit 31 alone", x);
            x.draw(3, size);
            x.verdict(-1, true);
            left("size " + size + ", all bits", x, upTo(size));
            due("minimal()", x.minimal(), true);
            x.draw(3, size);
            x.verdict(1, true);
            x.verdict(1 | -(last << 1), false);
            left("size " + size + ", the first together with all that there are not", x, 0);
            x.draw(3, size);
            x.verdict(0, true);
            x.verdict(-1, false);
            left("size " + size + ", all bits together", x, size == 0 ? new int[0] : upTo(size));
        }
    }

    private static void beyondSixOfEach() {
        sentence = "Promise 8: beyond 6 of each it is lost";
        for (int before = 0; before <= 8; before++) {
            LibraryDrawer x = drawn(7L, 3, 7);
            for (int k = 0; k < before; k++) {
                x.verdict(0xFF, true);
            }
            x.verdict(1, true);
            left("a needed row behind " + before, x, before < 6 ? new int[] {0} : upTo(7));
            LibraryDrawer y = drawn(7L, 3, 7);
            y.verdict(1, true);
            for (int k = 0; k < before; k++) {
                y.verdict(0b10, false);
            }
            y.verdict(0b101, false);
            left("a row together behind " + before, y, before < 6 ? new int[] {0, 2} : new int[] {0});
        }
        sixOfOneLeaveRoomForTheOthers();
        for (int bits : new int[] {0, 1, 2, 0b10001, -1, LEAST, MOST}) {
            lostBehindSix(bits);
        }
    }

    private static void sixOfOneLeaveRoomForTheOthers() {
        LibraryDrawer x = drawn(7L, 3, 7);
        for (int k = 0; k < 9; k++) {
            x.verdict(1, true);
        }
        for (int k = 0; k < 5; k++) {
            x.verdict(0, false);
        }
        x.verdict(0b101, false);
        left("six rows together beside six needed", x, 0, 2);
        x.verdict(0b1001, false);
        left("the seventh row together is lost", x, 0, 2);
        x.draw(3, 7);
        for (int k = 0; k < 9; k++) {
            x.verdict(0b10, false);
        }
        for (int k = 0; k < 5; k++) {
            x.verdict(0xFF, true);
        }
        x.verdict(0b01000000, true);
        left("six needed rows beside six together", x, 6);
        x.verdict(1, true);
        left("the seventh needed row is lost", x, 6);
    }

    private static void lostBehindSix(int bits) {
        LibraryDrawer one = drawn(7L, 0, 9);
        LibraryDrawer other = drawn(7L, 0, 9);
        for (LibraryDrawer x : new LibraryDrawer[] {one, other}) {
            fiveRowsOfEach(x);
            x.verdict(0b11000, true);
            x.verdict(0b10000100, false);
        }
        one.verdict(bits, true);
        one.verdict(bits, false);
        due("the answers behind a seventh verdict(" + bits + ", ..) of each", laterAnswers(one), laterAnswers(other));
    }

    private static void rowsWithoutParts() {
        sentence = "Promise 8: (A needed row without PARTS is had by every set;"
                + " of one TOGETHER without PARTS no set has some.)";
        for (int size : new int[] {0, 20}) {
            LibraryDrawer x = drawn(7L, 3, size);
            x.verdict(0, true);
            due("minimal(), as it stays without any", x.minimal(), false);
            left("a needed row without parts", x);
            due("minimal(), as nothing is left", x.minimal(), true);
            LibraryDrawer y = drawn(7L, 3, size);
            y.verdict(0, false);
            left("a row together without parts alone", y, upTo(size));
            due("minimal(), as none is needed", y.minimal(), false);
            y.verdict(1, true);
            left("and the first part needed", y, 0);
            due("minimal()", y.minimal(), true);
            LibraryDrawer z = drawn(7L, 3, size);
            z.verdict(0, false);
            z.verdict(0, true);
            left("one of each without parts", z);
            due("minimal()", z.minimal(), true);
        }
    }

    // VERDICT and SMALLER CASE

    private static void verdictStaysForOneRowAtLeast() {
        sentence = "VERDICT: it STAYS if the set has all PARTS of one at least of the rows that were told as needed";
        LibraryDrawer x = drawn(7L, 3, 20);
        x.verdict(ALL_21, true);
        due("minimal() of all, all needed", x.minimal(), true);
        left("all needed", x, upTo(20));
        x.verdict(ALL_21 & ~(1 << 20), true);
        due("minimal() of all, the last not needed", x.minimal(), false);
        left("all but the last needed", x, upTo(19));
        due("minimal()", x.minimal(), true);
        x.verdict(0b110, true);
        left("the last of three rows", x, 1, 2);
        x.verdict(0b100001, true);
        left("the first of these rows that stays to the end", x, 1, 2);
        x.verdict(0b10, true);
        left("a smaller row", x, 1);
        x.verdict(0, true);
        left("the sixth row", x);
    }

    private static void togetherSomeButNotAll() {
        sentence = "VERDICT: no row that was told as TOGETHER of which it has some PARTS, but not all";
        LibraryDrawer x = drawn(7L, 3, 20);
        x.verdict(1, true);
        x.verdict(1 << 7, false);
        left("one part alone together", x, 0);
        x.verdict(1 << 5 | 1 << 6, false);
        left("two others together are all had", x, 0, 5, 6);
        due("minimal(), though both could go at once", x.minimal(), true);
        x.verdict(1 << 6 | 1 << 20, false);
        left("a chain of rows together", x, 0, 5, 6, 20);
        x.verdict(1 | 1 << 1, false);
        left("the needed one with another", x, 0, 1, 5, 6, 20);
        x.verdict(ALL_21, false);
        left("all together", x, upTo(20));
        due("minimal()", x.minimal(), true);
        LibraryDrawer y = drawn(7L, 3, 20);
        y.verdict(1 | 1 << 20, true);
        left("two needed", y, 0, 20);
        y.verdict(1 << 19 | 1 << 20, false);
        due("minimal(), as what is left has one of two", y.minimal(), false);
        left("again from all on", y, 0, 19, 20);
    }

    private static void smallerCaseFromTheGreatestDown() {
        sentence = "SMALLER CASE: from all PARTS on, going from the greatest number down";
        LibraryDrawer x = drawn(7L, 3, 20);
        x.verdict(1 << 20, true);
        left("the last", x, 20);
        x.verdict(1 << 19, true);
        left("the last or the one before", x, 19);
        x.verdict(1, true);
        left("or the first", x, 0);
        LibraryDrawer y = drawn(7L, 3, 3);
        y.verdict(0b1100, true);
        y.verdict(0b0101, true);
        y.verdict(0b0110, true);
        left("rows that share a part", y, 0, 2);
    }

    // Promise 9

    private static void nothingIsLeftOut() {
        sentence = "Promise 9: If the VERDICT does not STAY for all of them, nothing is left out.";
        for (int size : new int[] {0, 1, 20}) {
            LibraryDrawer x = drawn(7L, 3, size);
            left("no rows, size " + size, x, upTo(size));
            due("minimal()", x.minimal(), false);
            for (int k = 0; k < 7; k++) {
                x.verdict(1 << k, false);
                left("rows together alone, size " + size, x, upTo(size));
                due("minimal()", x.minimal(), false);
            }
            x.draw(3, size);
            x.verdict(0, true);
            left("a needed row", x);
            x.draw(3, size);
            left("no rows again", x, upTo(size));
        }
        due("shorter(), nothing is drawn", new LibraryDrawer(7L).shorter(), 0);
    }

    private static void shorterOfTheEmptyAndTheFull() {
        sentence = "Promise 9: The SMALLER CASE: how many PARTS are LEFT.";
        for (int kind = 0; kind < 6; kind++) {
            for (int size = 0; size <= 20; size++) {
                LibraryDrawer x = drawn(7L, kind, size);
                x.verdict((1 << (size + 1)) - 1, true);
                due("shorter(), all needed", x.shorter(), size + 1);
                x.verdict((1 << size) - 1, true);
                due("shorter(), all but the last needed", x.shorter(), size);
                x.verdict(0, true);
                due("shorter(), none needed", x.shorter(), 0);
                due("shorter() again", x.shorter(), 0);
                due("part(" + size + ", 0) is as drawn", x.part(size, 0), drawn(7L, kind, size).part(size, 0));
            }
        }
    }

    // Promise 10

    private static void leftBeforeTheFirstAndPastTheLast() {
        sentence = "Promise 10: The i-th PART, from 0 on, that is LEFT, by numbers; NONE.";
        for (int size : new int[] {0, 1, 20}) {
            LibraryDrawer x = drawn(7L, 3, size);
            for (int i = 0; i <= size; i++) {
                due("size " + size + ", left(" + i + ")", x.left(i), i);
            }
            for (int i : new int[] {LEAST, -2, -1, size + 1, size + 2, 21, 22, 32, MOST}) {
                due("size " + size + ", left(" + i + ")", x.left(i), NONE);
            }
            x.verdict(1 << size, true);
            x.shorter();
            due("size " + size + ", left(0), the last alone", x.left(0), size);
            for (int i : new int[] {LEAST, -1, 1, 2, 20, 21, MOST}) {
                due("size " + size + ", left(" + i + "), the last alone", x.left(i), NONE);
            }
            x.verdict(0, true);
            x.shorter();
            for (int i : new int[] {LEAST, -1, 0, 1, 20, MOST}) {
                due("size " + size + ", left(" + i + "), nothing left", x.left(i), NONE);
            }
        }
    }

    // Promise 11

    private static void minimalOfNoneOneAndAll() {
        sentence = "Promise 11: Whether the VERDICT STAYS for the PARTS that are LEFT";
        LibraryDrawer x = drawn(7L, 3, 0);
        due("minimal() of one part, no rows", x.minimal(), false);
        x.verdict(1, false);
        due("minimal() of one part, together alone", x.minimal(), false);
        x.verdict(1, true);
        due("minimal() of one part, needed", x.minimal(), true);
        x.verdict(0, true);
        due("minimal() of one part, not needed", x.minimal(), false);
        due("shorter()", x.shorter(), 0);
        due("minimal() of none, none needed", x.minimal(), true);
        LibraryDrawer y = drawn(7L, 3, 20);
        y.verdict(ALL_21, true);
        due("minimal() of all, before shorter()", y.minimal(), true);
        y.shorter();
        due("minimal() of all, behind shorter()", y.minimal(), true);
        LibraryDrawer z = drawn(7L, 3, 20);
        z.verdict(0b1, true);
        z.shorter();
        z.verdict(0b11, false);
        due("minimal(), as what is left is torn now", z.minimal(), false);
        due("left(0), as shorter() was not called", z.left(0), 0);
        due("left(1), as shorter() was not called", z.left(1), NONE);
    }

    /** Whichever part is the one that is not needed, it is found: the first, the last, each between. */
    private static void notWithoutAnySingleOne() {
        sentence = "Promise 11: and not without any single one of them.";
        for (int p = 0; p <= 20; p++) {
            LibraryDrawer x = drawn(7L, 3, 20);
            x.verdict(ALL_21, true);
            due("minimal(), all needed", x.minimal(), true);
            x.verdict(ALL_21 & ~(1 << p), true);
            due("minimal(), all but " + p + " needed", x.minimal(), false);
            due("shorter()", x.shorter(), 20);
            due("minimal() without " + p, x.minimal(), true);
        }
        LibraryDrawer y = drawn(7L, 3, 1);
        y.verdict(0, true);
        y.verdict(0b11, false);
        due("minimal(), as only both at once could go", y.minimal(), true);
    }

    // Promise 12

    private static void sameOfWhatCantBe() {
        sentence = "Promise 12: false if these can't be.";
        for (int kind = -2; kind <= 7; kind++) {
            for (int size = -2; size <= 22; size++) {
                boolean can = kind >= 0 && kind <= 5 && size >= 0 && size <= 20;
                due("same(7, " + kind + ", " + size + ")", new LibraryDrawer(7L).same(7L, kind, size), can);
            }
        }
        for (int[] c : CANT_BE) {
            due("same(7, " + c[0] + ", " + c[1] + ")", new LibraryDrawer(7L).same(7L, c[0], c[1]), false);
            unchangedBy("same(7, " + c[0] + ", " + c[1] + ")", x -> x.same(7L, c[0], c[1]));
        }
    }

    private static void sameOfTheFirstAndLastSeeds() {
        sentence = "Promise 12: Whether another seed draws the same";
        long[] seeds = {0L, -1L, Long.MIN_VALUE, Long.MAX_VALUE, 1L << 32, 1L << 33};
        for (long one : seeds) {
            for (long other : seeds) {
                for (int kind = 0; kind < 6; kind++) {
                    due("seed " + one + ", same(" + other + ", " + kind + ", 20)",
                            new LibraryDrawer(one).same(other, kind, 20), one == other);
                }
            }
        }
    }

    private static void same(long one, long other, int kind, int size, boolean want) {
        String rest = ", " + kind + ", " + size + ")";
        due("seed " + one + ", same(" + other + rest, new LibraryDrawer(one).same(other, kind, size), want);
        due("seed " + other + ", same(" + one + rest, new LibraryDrawer(other).same(one, kind, size), want);
    }

    private static void sameInAll() {
        sentence = "Promise 12: the same (all PARTS, all signs) for a KIND and SIZE as this one does";
        same(2532L, 7973L, 0, 0, true);
        same(1207L, 2315L, 0, 1, true);
        same(1082L, 1728L, 0, 2, true);
        same(203L, 1983L, 1, 4, true);
        same(39458L, 55016L, 1, 6, true);
        same(1824L, 2493L, 2, 0, true);
        same(13125L, 193743L, 3, 1, true);
        same(2790L, 8030L, 4, 3, true);
        same(2767L, 6806L, 5, 3, true);
        // The same two seeds differ when the size or the kind is another.
        same(2532L, 7973L, 0, 1, false);
        same(2767L, 6806L, 5, 4, false);
        same(2767L, 6806L, 4, 3, false);
    }

    /** Pairs of seeds whose cases differ in one number or one letter, which is the first or the last. */
    private static void sameButForTheFirstOrTheLast() {
        sentence = "Promise 12: (all PARTS, all signs)";
        same(8L, 135L, 0, 0, false);
        same(0L, 470L, 0, 0, false);
        same(151L, 470L, 0, 0, false);
        same(27304L, 81566L, 0, 0, false);
        same(52193L, 59809L, 0, 0, false);
        same(5L, 15L, 0, 0, false);
        same(1L, 2L, 1, 0, false);
        same(3L, 10L, 1, 1, false);
        same(46L, 98L, 2, 0, false);
        same(184L, 853L, 2, 0, false);
        same(2L, 121L, 3, 0, false);
        same(80L, 1076L, 3, 0, false);
        same(26L, 82L, 4, 2, false);
        same(24L, 80L, 4, 2, false);
        same(682L, 853L, 5, 2, false);
        same(49L, 1093L, 5, 2, false);
    }

    private static void whatWasDrawnStays() {
        sentence = "Promise 12: What was drawn stays.";
        for (int kind = 0; kind < 6; kind++) {
            int k = kind;
            unchangedBy("same(8, " + k + ", 20)", x -> x.same(8L, k, 20));
            unchangedBy("same(8, " + k + ", 0)", x -> x.same(8L, k, 0));
            unchangedBy("same(7, " + k + ", 20)", x -> x.same(7L, k, 20));
        }
    }

    // All promises

    private static void callsThatOnlyAskChangeNothing() {
        sentence = "Nothing is promised beyond the answers and state changes described above";
        for (int i : new int[] {LEAST, -1, 0, 20, 21, 147, MOST}) {
            unchangedBy("part(" + i + ", ..)", x -> {
                x.part(i, 0);
                x.part(i, 3);
                x.part(0, i);
            });
            unchangedBy("letter(" + i + ")", x -> x.letter(i));
            unchangedBy("majority(" + i + ")", x -> x.majority(i));
            unchangedBy("ends(" + i + ")", x -> x.ends(i));
            unchangedBy("planted(" + i + ")", x -> x.planted(i));
            unchangedBy("left(" + i + ")", x -> x.left(i));
        }
        unchangedBy("minimal()", x -> x.minimal());
    }

    private static LibraryDrawer after511(long seed, Consumer<LibraryDrawer> call) {
        LibraryDrawer x = new LibraryDrawer(seed);
        x.draw(0, 20);
        for (int k = 1; k < 511; k++) {
            call.accept(x);
        }
        return x;
    }

    private static void the512thCall() {
        sentence = "What it is: An object is used for at most 512 calls after it has been made";
        long most = SEED_OF_MOST_SIGNS;
        due("letter(146) behind draws", after511(most, x -> x.draw(0, 20)).letter(146), 10);
        due("part(20, 2) behind draws", after511(most, x -> x.draw(0, 20)).part(20, 2), 19);
        due("draw(5, 20) behind draws", after511(most, x -> x.draw(0, 20)).draw(5, 20), 21);
        due("letter(146) behind calls of same", after511(most, x -> x.same(7L, 0, 20)).letter(146), 10);
        due("same(7, 0, 20) behind calls of same", after511(most, x -> x.same(7L, 0, 20)).same(7L, 0, 20), false);
        due("shorter() behind rows", after511(most, x -> x.verdict(0b101, true)).shorter(), 2);
        due("shorter() behind rows together", after511(most, x -> x.verdict(0b101, false)).shorter(), 21);
        due("minimal() behind rows", after511(most, x -> x.verdict(ALL_21, true)).minimal(), true);
        due("left(20) behind calls of shorter", after511(most, x -> x.shorter()).left(20), 20);
        due("planted(2) behind refused draws", after511(most, x -> x.draw(6, 21)).planted(2), 11);
        due("majority(0) behind draws", after511(7L, x -> x.draw(1, 7)).majority(0), 2);
        due("ends(7) behind draws", after511(7L, x -> x.draw(2, 7)).ends(7), true);
    }
}
