/** Each promise of the document, by answers that were worked out outside the class. */
public final class PromisesTest {
    private static final int NONE = -1;
    private static final int[] FAR = {-1, -2, 21, 22, 64, 147, 1000, Integer.MAX_VALUE, Integer.MIN_VALUE};

    private static int wrong = 0;
    private static String promise = "";

    public static void main(String[] args) {
        newObject();
        draw();
        drawThatCantBe();
        part();
        partOfNone();
        letter();
        majority();
        ends();
        planted();
        plantedOfOtherKinds();
        verdict();
        verdictBeyondSix();
        shorter();
        left();
        minimal();
        same();
        sameButForOne();
        sameLeavesAll();
        System.out.println(wrong == 0 ? "all answers are as due" : wrong + " answers are not as due");
        if (wrong != 0) {
            System.exit(1);
        }
    }

    private static void due(String call, int got, int want) {
        if (got != want) {
            wrong++;
            System.out.println(promise + ": " + call + " answered " + got + ", due is " + want);
        }
    }

    private static void due(String call, boolean got, boolean want) {
        if (got != want) {
            wrong++;
            System.out.println(promise + ": " + call + " answered " + got + ", due is " + want);
        }
    }

    private static LibraryDrawer drawn(long seed, int kind, int size) {
        LibraryDrawer x = new LibraryDrawer(seed);
        due("draw(" + kind + ", " + size + ")", x.draw(kind, size), size + 1);
        return x;
    }

    private static void newObject() {
        promise = "promise 1";
        due("NONE", LibraryDrawer.NONE, NONE);
        for (long seed : new long[] {0L, 7L, -1L, Long.MAX_VALUE, Long.MIN_VALUE}) {
            LibraryDrawer x = new LibraryDrawer(seed);
            for (int what = 0; what < 3; what++) {
                due("part(0, " + what + ")", x.part(0, what), NONE);
            }
            due("letter(0)", x.letter(0), NONE);
            due("majority(0)", x.majority(0), NONE);
            due("ends(0)", x.ends(0), false);
            for (int what = 0; what < 8; what++) {
                due("planted(" + what + ")", x.planted(what), 0);
            }
            due("planted(8)", x.planted(8), NONE);
            due("left(0)", x.left(0), NONE);
            due("minimal()", x.minimal(), false);
            due("shorter()", x.shorter(), 0);
            x.verdict(0, true);
            due("minimal() after a row that is lost", x.minimal(), false);
        }
    }

    private static void draw() {
        promise = "promise 2";
        LibraryDrawer x = new LibraryDrawer(7L);
        for (int kind = 0; kind < 6; kind++) {
            for (int size = 0; size <= 20; size++) {
                due("draw(" + kind + ", " + size + ")", x.draw(kind, size), size + 1);
                due("left(" + size + ")", x.left(size), size);
                due("left(" + (size + 1) + ")", x.left(size + 1), NONE);
            }
        }
        x.draw(5, 3);
        x.verdict(1, true);
        due("shorter()", x.shorter(), 1);
        due("draw(5, 3)", x.draw(5, 3), 4);
        due("left(3), as all are left again", x.left(3), 3);
        due("shorter(), as no rows are told", x.shorter(), 4);
        due("minimal(), as no rows are told", x.minimal(), false);
        x.verdict(3, false);
        x.verdict(1, true);
        due("minimal()", x.minimal(), false);
        x.draw(5, 3);
        x.verdict(1, true);
        due("shorter(), as no row is together", x.shorter(), 1);
    }

    private static void drawThatCantBe() {
        promise = "promise 2";
        int[][] cant = {{-1, 3}, {6, 3}, {0, -1}, {0, 21}, {5, 21}, {-1, -1}, {6, 21},
            {Integer.MIN_VALUE, 0}, {Integer.MAX_VALUE, 0}, {0, Integer.MIN_VALUE}, {0, Integer.MAX_VALUE}};
        LibraryDrawer fresh = new LibraryDrawer(7L);
        LibraryDrawer x = drawn(7L, 0, 7);
        x.verdict(5, true);
        due("shorter()", x.shorter(), 2);
        for (int[] c : cant) {
            String call = "draw(" + c[0] + ", " + c[1] + ")";
            due(call, fresh.draw(c[0], c[1]), NONE);
            due("part(0, 0) behind " + call, fresh.part(0, 0), NONE);
            due("left(0) behind " + call, fresh.left(0), NONE);
            due(call, x.draw(c[0], c[1]), NONE);
            due("part(6, 1) behind " + call, x.part(6, 1), 2005);
            due("letter(0) behind " + call, x.letter(0), 'h');
            due("left(1) behind " + call, x.left(1), 2);
            due("minimal() behind " + call, x.minimal(), true);
        }
    }

    private static void part() {
        promise = "promise 3";
        parts(7L, 0, new int[] {2, 1972, -1, 2, 1972, 0, 0, 1985, -1, 1, 1917, -1,
            6, 2012, -1, 2, 1992, -1, 3, 2005, -1, 3, 2016, -1});
        parts(-3L, 0, new int[] {2, 1986, -1, 0, 1954, -1, 0, 1954, 1, 4, 0, -1,
            0, 1959, -1, 6, 2002, -1, 0, 1985, -1, 5, 1923, -1});
        parts(12L, 0, new int[] {5, 1968, -1, 5, 1968, 0, 5, 1968, 1, 1, 1971, -1, 3, 1960, -1, 1, 2001, -1});
        parts(7L, 1, new int[] {3, 10, 0, 2, 4, 0, 2, 10, 0, 2, 2, 0, 5, 128, 0, 3, 9, 0, 4, 0, 0, 3, 18, 0});
        parts(-3L, 1, new int[] {5, 277, 0, 3, 18, 0, 3, 5, 0, 3, 36, 0, 4, 64, 0, 2, 9, 0, 2, 10, 0, 2, 2, 0});
        parts(7L, 2, new int[] {599, 38, 14, 538, 51, 15, 232, 20, 48, 546, 39, 20,
            158, 15, 52, 124, 33, 22, 519, 30, 31, 728, 35, 14});
        parts(-3L, 2, new int[] {876, 48, 1, 200, 11, 97, 361, 60, 2, 529, 26, 19,
            994, 43, 7, 109, 59, 8, 98, 58, 23, 787, 57, 8});
        parts(42L, 2, new int[] {298, 1, 432, 518, 15, 64});
        parts(7L, 3, new int[] {7, 481, 0, 8, 15, 0, 9, 623, 0, 9, 900, 0, 3, 207, 0, 8, 319, 0, 4, 428, 0, 3, 485, 0});
        parts(-3L, 3, new int[] {3, 783, 2, 6, 286, 0, 2, 667, 0, 8, 885, 0, 9, 248, 0, 8, 902, 2, 4, 67, 0, 6, 693, 0});
        parts(7L, 4, new int[] {1, -1, 108, 0, -1, 112, 2, -1, 126, 1, 0, 139,
            3, -1, 145, 1, -1, 152, 4, -1, 166, 3, 2, 172});
        parts(-3L, 4, new int[] {3, -1, 100, 3, -1, 113, 1, -1, 126, 2, -1, 138,
            1, 0, 140, 2, 1, 153, 4, -1, 167, 1, -1, 173});
        parts(7L, 5, new int[] {5, 2, 0, 1, 2, 2, 5, 6, 3, 2, 1, 4, 3, 0, 6, 4, 4, 6, 2, 1, 9, 2, 3, 9});
        parts(-3L, 5, new int[] {4, 0, 3, 5, 6, 7, 0, 2, 7, 1, 1, 10, 5, 4, 12, 3, 6, 16, 5, 1, 16, 5, 1, 17});
    }

    private static void parts(long seed, int kind, int[] want) {
        LibraryDrawer x = drawn(seed, kind, want.length / 3 - 1);
        for (int k = 0; k < want.length; k++) {
            due("seed " + seed + " kind " + kind + " part(" + k / 3 + ", " + k % 3 + ")", x.part(k / 3, k % 3), want[k]);
        }
    }

    private static void partOfNone() {
        promise = "promise 3";
        LibraryDrawer x = drawn(7L, 3, 20);
        x.draw(3, 4);
        due("part(5, 0), drawn before, but not now", x.part(5, 0), NONE);
        for (int far : FAR) {
            due("part(" + far + ", 0)", x.part(far, 0), NONE);
            due("part(0, " + far + ")", x.part(0, far), NONE);
            due("part(" + far + ", " + far + ")", x.part(far, far), NONE);
        }
        due("part(0, 3)", x.part(0, 3), NONE);
        due("part(1, -1)", x.part(1, -1), NONE);
    }

    private static void letter() {
        promise = "promise 4";
        signs(7L, 7, "hl\nhl\n\nl\nnkawyi\nro\nmay\nryu\n");
        signs(-3L, 7, "sp\n\n\nqjpa\n\nmcpfgp\n\nqlwrm\n");
        signs(12L, 5, "qtezj\nqtezj\nqtezj\nr\nrhv\no\n");
        signs(25499L, 20, "cdjsjc\ncdjsjc\nmfubi\ncdjsjc\ncdjsjc\nyldq\ncdjsjc\ncdjsjc\nymhml\nimy\nnayd\n"
                + "isduf\nuspim\ncdjsjc\ngpaan\ndhjwur\nisduf\nyfbqi\ncdjsjc\nqqpax\nidmi\n");
        LibraryDrawer x = drawn(7L, 0, 20);
        for (int kind = 1; kind < 6; kind++) {
            x.draw(0, 20);
            x.draw(kind, 20);
            due("letter(0) of kind " + kind, x.letter(0), NONE);
        }
        x.draw(0, 7);
        due("letter(0), drawn again", x.letter(0), 'h');
    }

    private static void signs(long seed, int size, String want) {
        LibraryDrawer x = drawn(seed, 0, 20);
        x.draw(0, size);
        for (int i = 0; i < want.length(); i++) {
            due("seed " + seed + " letter(" + i + ")", x.letter(i), want.charAt(i));
        }
        due("letter past the end", x.letter(want.length()), NONE);
        for (int far : FAR) {
            due("letter(" + far + ")", x.letter(far), far >= 0 && far < want.length() ? want.charAt(far) : NONE);
        }
    }

    private static void majority() {
        promise = "promise 5";
        int[] want = {2, NONE, 2, NONE, 0, NONE, 0, NONE};
        LibraryDrawer x = drawn(7L, 1, 7);
        for (int i = 0; i < want.length; i++) {
            due("majority(" + i + ")", x.majority(i), want[i]);
        }
        due("majority(8)", x.majority(8), NONE);
        for (int far : FAR) {
            due("majority(" + far + ")", x.majority(far), NONE);
        }
        LibraryDrawer y = drawn(-3L, 1, 7);
        due("majority(0) of copies 1 1 1 0 1", y.majority(0), 1);
        due("majority(4) of copies 0 0 0 1", y.majority(4), 0);
        for (int kind = 0; kind < 6; kind++) {
            x.draw(kind, 20);
            due("majority(0) of kind " + kind + " is one", x.majority(0) != NONE, kind == 1);
        }
    }

    private static void ends() {
        promise = "promise 6";
        LibraryDrawer x = drawn(194L, 2, 3);
        for (int i = 0; i < 4; i++) {
            due("ends(" + i + ")", x.ends(i), true);
        }
        due("ends(4)", x.ends(4), false);
        for (int far : FAR) {
            due("ends(" + far + ")", x.ends(far), false);
        }
        for (int kind = 0; kind < 6; kind++) {
            x.draw(kind, 20);
            due("ends(0) of kind " + kind, x.ends(0), kind == 2);
            due("ends(20) of kind " + kind, x.ends(20), kind == 2);
        }
    }

    private static void planted() {
        promise = "promise 7";
        counts(7L, 0, 7, new int[] {1, 0, 1, 0, 0, 0, 0, 0});
        counts(-3L, 0, 7, new int[] {4, 1, 1, 0, 0, 0, 0, 0});
        counts(292L, 0, 5, new int[] {3, 2, 1, 0, 0, 0, 0, 0});
        counts(7L, 1, 7, new int[] {0, 0, 0, 4, 0, 0, 0, 0});
        counts(7L, 1, 4, new int[] {0, 0, 0, 2, 0, 0, 0, 0});
        counts(7L, 1, 0, new int[] {0, 0, 0, 0, 0, 0, 0, 0});
        counts(7L, 2, 7, new int[] {0, 0, 0, 0, 0, 0, 0, 0});
        counts(194L, 2, 3, new int[] {0, 0, 0, 0, 1, 0, 0, 0});
        counts(7L, 3, 7, new int[] {0, 0, 0, 0, 0, 0, 0, 0});
        counts(-3L, 3, 7, new int[] {0, 0, 0, 0, 0, 2, 0, 0});
        counts(7L, 4, 7, new int[] {0, 0, 0, 0, 0, 0, 2, 0});
        counts(7L, 5, 7, new int[] {0, 0, 0, 0, 0, 0, 0, 3});
        counts(-3L, 5, 7, new int[] {0, 0, 0, 0, 0, 0, 0, 2});
        counts(5L, 5, 4, new int[] {0, 0, 0, 0, 0, 0, 0, 2});
    }

    private static void counts(long seed, int kind, int size, int[] want) {
        LibraryDrawer x = drawn(seed, kind, size);
        for (int what = 0; what < want.length; what++) {
            due("seed " + seed + " kind " + kind + " planted(" + what + ")", x.planted(what), want[what]);
        }
    }

    private static void plantedOfOtherKinds() {
        promise = "promise 7";
        int[] kindOf = {0, 0, 0, 1, 2, 3, 4, 5};
        LibraryDrawer x = new LibraryDrawer(7L);
        for (int kind = 0; kind < 6; kind++) {
            x.draw(kind, 20);
            for (int what = 0; what < 8; what++) {
                if (kindOf[what] != kind) {
                    due("kind " + kind + " planted(" + what + ")", x.planted(what), 0);
                }
            }
            due("planted(8)", x.planted(8), NONE);
            for (int far : FAR) {
                due("planted(" + far + ")", x.planted(far), NONE);
            }
        }
        x.draw(3, 7);
        x.verdict(1, true);
        x.draw(4, 7);
        x.verdict(0, true);
        x.shorter();
        due("planted(6), as all were drawn", x.planted(6), 2);
    }

    private static void verdict() {
        promise = "promise 8";
        LibraryDrawer x = new LibraryDrawer(7L);
        x.verdict(1, true);
        x.verdict(3, false);
        x.draw(5, 3);
        due("shorter(), as rows told before are lost", x.shorter(), 4);
        x.verdict(-1, true);
        due("shorter(), all needed", x.shorter(), 4);
        due("minimal(), all needed", x.minimal(), true);
        x.draw(5, 3);
        x.verdict(0xFFFFFFF2, true);
        x.verdict(0xFFFFFFF0, false);
        due("shorter(), parts that there are not passed over", x.shorter(), 1);
        due("left(0)", x.left(0), 1);
        x.draw(5, 3);
        x.verdict(Integer.MIN_VALUE, true);
        due("shorter(), a needed row without parts", x.shorter(), 0);
        due("minimal(), a needed row without parts", x.minimal(), true);
        x.draw(5, 3);
        x.verdict(0, false);
        due("shorter(), none needed", x.shorter(), 4);
        due("minimal(), none needed", x.minimal(), false);
        x.draw(5, 3);
        x.verdict(1, true);
        x.verdict(12, false);
        due("shorter(), 2 and 3 together", x.shorter(), 3);
        due("left(1)", x.left(1), 2);
        due("left(2)", x.left(2), 3);
        due("minimal(), 2 and 3 together", x.minimal(), true);
        x.draw(5, 20);
        x.verdict(1 << 20 | 1 << 21, true);
        due("shorter(), the last part needed", x.shorter(), 1);
        due("left(0), the last part needed", x.left(0), 20);
    }

    private static void verdictBeyondSix() {
        promise = "promise 8";
        for (int before = 4; before <= 8; before++) {
            LibraryDrawer x = drawn(7L, 3, 9);
            for (int k = 0; k < before; k++) {
                x.verdict(1023, true);
            }
            x.verdict(1, true);
            due("shorter() with a row behind " + before, x.shorter(), before < 6 ? 1 : 10);
            for (int k = 0; k < before; k++) {
                x.verdict(0, false);
            }
            x.verdict(3, false);
            due("shorter() with a row together behind " + before, x.shorter(), before < 6 ? 2 : 10);
            x.draw(3, 9);
            x.verdict(1, true);
            for (int k = 0; k < before; k++) {
                x.verdict(0, false);
            }
            x.verdict(3, false);
            due("shorter() with a row together behind " + before, x.shorter(), before < 6 ? 2 : 1);
        }
    }

    private static void shorter() {
        promise = "promise 9";
        LibraryDrawer x = drawn(7L, 3, 5);
        due("shorter(), nothing told", x.shorter(), 6);
        x.verdict(0b110000, true);
        due("shorter()", x.shorter(), 2);
        due("left(0)", x.left(0), 4);
        x.verdict(0b000011, true);
        due("shorter(), from all parts on and from the greatest down", x.shorter(), 2);
        due("left(0)", x.left(0), 0);
        due("left(1)", x.left(1), 1);
        x.verdict(0b100100, false);
        due("shorter(), from all parts on with 2 and 5 together", x.shorter(), 4);
        due("left(2)", x.left(2), 2);
        due("left(3)", x.left(3), 5);
        x.verdict(0b000001, true);
        x.verdict(0b000010, false);
        due("shorter(), a row of one together", x.shorter(), 3);
        due("left(0)", x.left(0), 0);
        due("left(1)", x.left(1), 2);
        due("shorter() again", x.shorter(), 3);
    }

    private static void left() {
        promise = "promise 10";
        LibraryDrawer x = drawn(7L, 1, 20);
        x.verdict(1 << 3 | 1 << 11 | 1 << 20, true);
        due("left(20) before shorter", x.left(20), 20);
        x.shorter();
        due("left(0)", x.left(0), 3);
        due("left(1)", x.left(1), 11);
        due("left(2)", x.left(2), 20);
        due("left(3)", x.left(3), NONE);
        for (int far : FAR) {
            due("left(" + far + ")", x.left(far), NONE);
        }
        due("part(0, 0), left out but drawn", x.part(0, 0), 5);
    }

    private static void minimal() {
        promise = "promise 11";
        LibraryDrawer x = drawn(7L, 2, 2);
        due("minimal(), nothing told", x.minimal(), false);
        x.verdict(7, true);
        due("minimal(), all needed, before shorter", x.minimal(), true);
        x.verdict(3, true);
        due("minimal(), one is not needed", x.minimal(), false);
        due("shorter()", x.shorter(), 2);
        due("minimal()", x.minimal(), true);
        x.verdict(1, true);
        due("minimal(), less is needed now", x.minimal(), false);
        due("shorter()", x.shorter(), 1);
        due("minimal()", x.minimal(), true);
        x.verdict(5, false);
        due("minimal(), the left are torn now", x.minimal(), false);
        due("shorter()", x.shorter(), 2);
        due("minimal(), 0 and 2 together", x.minimal(), true);
        x.draw(2, 2);
        x.verdict(6, true);
        due("minimal(), the first is not needed", x.minimal(), false);
        LibraryDrawer y = drawn(7L, 2, 2);
        y.verdict(0, true);
        y.verdict(7, false);
        due("shorter(), all together", y.shorter(), 3);
        due("minimal(), though none alone would do", y.minimal(), true);
    }

    private static void same() {
        promise = "promise 12";
        sameBoth(32L, 56L, 0, 0, true);
        sameBoth(24L, 48L, 0, 0, false);
        sameBoth(4L, 11L, 1, 0, true);
        sameBoth(1824L, 2493L, 2, 0, true);
        sameBoth(83L, 1079L, 3, 0, true);
        sameBoth(3L, 5L, 4, 0, true);
        sameBoth(7L, 10L, 5, 0, true);
        for (int kind = 0; kind < 6; kind++) {
            for (int size = 0; size <= 20; size++) {
                sameBoth(7L, 7L, kind, size, true);
            }
            sameBoth(7L, -3L, kind, 20, false);
            sameBoth(32L, 56L, kind, 20, false);
            sameBoth(5L, 5L, kind, -1, false);
            sameBoth(5L, 5L, kind, 21, false);
            sameBoth(5L, 5L, kind, Integer.MIN_VALUE, false);
            sameBoth(5L, 5L, kind, Integer.MAX_VALUE, false);
        }
        sameBoth(5L, 5L, -1, 0, false);
        sameBoth(5L, 5L, 6, 0, false);
        sameBoth(5L, 5L, Integer.MIN_VALUE, 0, false);
        sameBoth(5L, 5L, Integer.MAX_VALUE, 0, false);
    }

    /** Pairs of seeds that draw cases of which one number or one sign alone is another. */
    private static void sameButForOne() {
        promise = "promise 12";
        long[][] pairs = {{8, 135, 0, 0}, {151, 470, 0, 0}, {1, 2, 1, 0}, {0, 2, 1, 0}, {22, 46, 1, 1}, {3, 10, 1, 1},
            {46, 98, 2, 0}, {6, 130, 2, 0}, {184, 853, 2, 0}, {2, 121, 3, 0}, {0, 2, 3, 0}, {80, 1076, 3, 0},
            {0, 2, 4, 0}, {11, 13, 4, 1}, {42, 142, 4, 1}, {1, 3, 4, 0}, {6, 60, 4, 1},
            {0, 1, 5, 0}, {2, 26, 5, 1}, {42, 88, 5, 1}, {0, 3, 5, 0}, {6, 28, 5, 1}};
        for (long[] p : pairs) {
            sameBoth(p[0], p[1], (int) p[2], (int) p[3], false);
        }
    }

    private static void sameBoth(long one, long other, int kind, int size, boolean want) {
        String rest = ", " + kind + ", " + size + ")";
        due("seed " + one + " same(" + other + rest, new LibraryDrawer(one).same(other, kind, size), want);
        due("seed " + other + " same(" + one + rest, new LibraryDrawer(other).same(one, kind, size), want);
    }

    private static void sameLeavesAll() {
        promise = "promise 12";
        LibraryDrawer fresh = new LibraryDrawer(7L);
        due("same(7, 0, 20)", fresh.same(7L, 0, 20), true);
        due("part(0, 0), still nothing drawn", fresh.part(0, 0), NONE);
        due("letter(0), still nothing drawn", fresh.letter(0), NONE);
        due("shorter(), still nothing drawn", fresh.shorter(), 0);
        LibraryDrawer x = drawn(7L, 0, 7);
        x.verdict(5, true);
        x.shorter();
        for (int kind = -1; kind < 7; kind++) {
            x.same(8L, kind, 20);
            due("part(6, 1)", x.part(6, 1), 2005);
            due("part(8, 0)", x.part(8, 0), NONE);
            due("letter(3)", x.letter(3), 'h');
            due("planted(2)", x.planted(2), 1);
            due("left(1)", x.left(1), 2);
            due("minimal()", x.minimal(), true);
        }
        due("shorter()", x.shorter(), 2);
    }
}
