import java.math.BigInteger;
import java.util.ArrayList;
import java.util.List;
import java.util.Random;
import java.util.Set;
import java.util.TreeSet;

/** Long runs of calls, wrong arguments among them, against a second, plain telling of the document. */
public final class ModelTest {
    private static final int NONE = -1;
    private static final int CALLS_OF_AN_OBJECT = 512;
    private static final int[] FAR = {-1, -7, 6, 21, 22, 31, 32, 147, 1 << 20,
        Integer.MAX_VALUE, Integer.MIN_VALUE, Integer.MIN_VALUE + 1};

    private static int wrong = 0;

    public static void main(String[] args) {
        Random random = new Random(20261115L);
        wholeCases(random);
        for (int run = 0; run < 300; run++) {
            runOfCalls(random, run);
        }
        sameOfSmallSeeds();
        System.out.println(wrong == 0 ? "all answers are as due" : wrong + " answers are not as due");
        if (wrong != 0) {
            System.exit(1);
        }
    }

    private static void due(String call, Object got, Object want) {
        if (!got.equals(want)) {
            wrong++;
            if (wrong <= 50) {
                System.out.println(call + " answered " + got + ", due is " + want);
            }
        }
    }

    private static long seed(Random random) {
        switch (random.nextInt(4)) {
            case 0:
                return random.nextInt(40) - 20;
            case 1:
                return random.nextBoolean() ? Long.MAX_VALUE - random.nextInt(3) : Long.MIN_VALUE + random.nextInt(3);
            default:
                return random.nextLong();
        }
    }

    private static void wholeCases(Random random) {
        for (int round = 0; round < 40; round++) {
            long seed = seed(random);
            for (int kind = 0; kind < 6; kind++) {
                for (int size = 0; size <= 20; size++) {
                    wholeCase(seed, kind, size);
                }
            }
        }
    }

    private static void wholeCase(long seed, int kind, int size) {
        String name = "seed " + seed + " draw(" + kind + ", " + size + ")";
        LibraryDrawer x = new LibraryDrawer(seed);
        Model m = new Model(seed);
        due(name, x.draw(kind, size), m.draw(kind, size));
        for (int i = -1; i <= size + 1; i++) {
            for (int what = -1; what <= 3; what++) {
                due(name + " part(" + i + ", " + what + ")", x.part(i, what), m.part(i, what));
            }
            due(name + " majority(" + i + ")", x.majority(i), m.majority(i));
            due(name + " ends(" + i + ")", x.ends(i), m.ends(i));
        }
        for (int i = -1; i <= 148; i++) {
            due(name + " letter(" + i + ")", x.letter(i), m.letter(i));
        }
        for (int what = -1; what <= 8; what++) {
            due(name + " planted(" + what + ")", x.planted(what), m.planted(what));
        }
    }

    private static void runOfCalls(Random random, int run) {
        long seed = seed(random);
        LibraryDrawer x = new LibraryDrawer(seed);
        Model m = new Model(seed);
        for (int k = 0; k < CALLS_OF_AN_OBJECT; k++) {
            oneCall(random, "run " + run + " call " + k + ", seed " + seed + ": ", x, m);
        }
    }

    private static int number(Random random, int bound) {
        return random.nextInt(12) == 0 ? FAR[random.nextInt(FAR.length)] : random.nextInt(bound);
    }

    private static int row(Random random) {
        switch (random.nextInt(6)) {
            case 0:
                return random.nextInt();
            case 1:
                return 0;
            case 2:
                return FAR[random.nextInt(FAR.length)];
            default:
                return 1 << random.nextInt(22) | 1 << random.nextInt(22) | 1 << random.nextInt(6);
        }
    }

    private static void oneCall(Random random, String at, LibraryDrawer x, Model m) {
        int a = number(random, 21);
        int b = number(random, 6);
        switch (random.nextInt(14)) {
            case 0:
                due(at + "draw(" + b + ", " + a + ")", x.draw(b, a), m.draw(b, a));
                break;
            case 1:
                due(at + "part(" + a + ", " + b + ")", x.part(a, b), m.part(a, b));
                break;
            case 2:
                int sign = number(random, 147);
                due(at + "letter(" + sign + ")", x.letter(sign), m.letter(sign));
                break;
            case 3:
                due(at + "majority(" + a + ")", x.majority(a), m.majority(a));
                break;
            case 4:
                due(at + "ends(" + a + ")", x.ends(a), m.ends(a));
                break;
            case 5:
                int what = number(random, 9);
                due(at + "planted(" + what + ")", x.planted(what), m.planted(what));
                break;
            case 6:
                long other = seed(random);
                due(at + "same(" + other + ", " + b + ", " + a + ")", x.same(other, b, a), m.same(other, b, a));
                break;
            case 7:
                due(at + "same(its own, " + b + ", " + a + ")", x.same(m.seed, b, a), m.same(m.seed, b, a));
                break;
            default:
                callOnVerdicts(random, at, x, m);
                break;
        }
    }

    private static void callOnVerdicts(Random random, String at, LibraryDrawer x, Model m) {
        int i = number(random, 21);
        switch (random.nextInt(6)) {
            case 0:
                due(at + "shorter()", x.shorter(), m.shorter());
                break;
            case 1:
                due(at + "left(" + i + ")", x.left(i), m.left(i));
                break;
            case 2:
                due(at + "minimal()", x.minimal(), m.minimal());
                break;
            default:
                int bits = row(random);
                boolean stays = random.nextInt(3) != 0;
                x.verdict(bits, stays);
                m.verdict(bits, stays);
                due(at + "minimal() after verdict(" + bits + ", " + stays + ")", x.minimal(), m.minimal());
                break;
        }
    }

    private static void sameOfSmallSeeds() {
        int[] alike = new int[6];
        for (int kind = 0; kind < 6; kind++) {
            for (int size = 0; size < 3; size++) {
                for (long one = 0; one < 60; one++) {
                    LibraryDrawer x = new LibraryDrawer(one);
                    Model m = new Model(one);
                    for (long other = one + 1; other < 60; other++) {
                        boolean want = m.same(other, kind, size);
                        alike[kind] += want ? 1 : 0;
                        due("seed " + one + " same(" + other + ", " + kind + ", " + size + ")",
                                x.same(other, kind, size), want);
                    }
                }
            }
        }
        due("some seeds draw the same files, readers and acts",
                alike[1] > 0 && alike[4] > 0 && alike[5] > 0, true);
    }

    /** The document told with lists, sets and big numbers. */
    private static final class Model {
        private static final BigInteger TIMES = new BigInteger("6364136223846793005");
        private static final BigInteger MORE = new BigInteger("1442695040888963407");
        private static final BigInteger OVER = BigInteger.ONE.shiftLeft(64);

        private final long seed;
        private BigInteger chance = BigInteger.ZERO;
        private int kind = NONE;
        private List<int[]> parts = new ArrayList<>();
        private List<String> titles = new ArrayList<>();
        private final List<Set<Integer>> needed = new ArrayList<>();
        private final List<Set<Integer>> together = new ArrayList<>();
        private Set<Integer> left = new TreeSet<>();

        Model(long seed) {
            this.seed = seed;
        }

        private int next(int n) {
            chance = chance.multiply(TIMES).add(MORE).mod(OVER);
            return chance.shiftRight(33).mod(BigInteger.valueOf(n)).intValueExact();
        }

        int draw(int newKind, int size) {
            if (newKind < 0 || newKind > 5 || size < 0 || size > 20) {
                return NONE;
            }
            kind = newKind;
            chance = BigInteger.valueOf(seed)
                    .add(BigInteger.valueOf(1000003L * kind + 101L * size)).mod(OVER);
            parts = new ArrayList<>();
            titles = new ArrayList<>();
            for (int i = 0; i <= size; i++) {
                parts.add(onePart(i, size));
            }
            needed.clear();
            together.clear();
            left = all();
            return size + 1;
        }

        private int[] onePart(int i, int size) {
            switch (kind) {
                case 0:
                    return record(i);
                case 1:
                    return file(i % 2 == 0);
                case 2:
                    int day = next(1000);
                    int step = 1 + next(60);
                    int most = 0;
                    for (int d = day; d <= 1500; d += step) {
                        most++;
                    }
                    return new int[] {day, step, 1 + next(most)};
                case 3:
                    int lineSize = 1 + next(9);
                    int sum = next(1000);
                    return new int[] {lineSize, sum, next(4) == 0 ? 1 + next(3) : 0};
                case 4:
                    return reader(i);
                default:
                    int which = next(6);
                    int on = next(size + 1);
                    return new int[] {which, on, next(5) + (i == 0 ? 0 : parts.get(i - 1)[2])};
            }
        }

        private int[] record(int i) {
            if (i != 0 && next(5) == 0) {
                int like = next(i);
                titles.add(titles.get(like));
                return new int[] {parts.get(like)[0], parts.get(like)[1], like};
            }
            int letters = next(7);
            int year = 0;
            if (next(8) != 0) {
                year = 1900 + next(120);
            }
            StringBuilder title = new StringBuilder();
            while (title.length() < letters) {
                title.append("abcdefghijklmnopqrstuvwxyz".charAt(next(26)));
            }
            titles.add(title.toString());
            return new int[] {letters, year, NONE};
        }

        private int[] file(boolean even) {
            List<Integer> copies = new ArrayList<>();
            int many = even ? 1 + next(5) : 2 + next(4);
            int first = next(3);
            while (copies.size() < many) {
                if (!even) {
                    copies.add((first + copies.size()) % 3);
                } else if (copies.size() <= many / 2) {
                    copies.add(first);
                } else {
                    copies.add(next(3));
                }
            }
            int digits = 0;
            for (int k = many - 1; k >= 0; k--) {
                digits = 4 * digits + copies.get(k);
            }
            return new int[] {many, digits, 0};
        }

        private int[] reader(int i) {
            int what0 = next(5);
            int guardian = NONE;
            if (i != 0 && next(3) == 0) {
                int asked = next(i);
                if (parts.get(asked)[1] == NONE) {
                    guardian = asked;
                }
            }
            return new int[] {what0, guardian, 100 + 10 * i + next(10)};
        }

        private boolean has(int i) {
            return i >= 0 && i < parts.size();
        }

        int part(int i, int what) {
            return has(i) && what >= 0 && what <= 2 ? parts.get(i)[what] : NONE;
        }

        private String signs() {
            StringBuilder signs = new StringBuilder();
            for (String title : titles) {
                signs.append(title).append('\n');
            }
            return signs.toString();
        }

        int letter(int i) {
            String signs = signs();
            return i >= 0 && i < signs.length() ? signs.charAt(i) : NONE;
        }

        int majority(int file) {
            if (kind != 1 || !has(file)) {
                return NONE;
            }
            int[] votes = new int[4];
            int rest = parts.get(file)[1];
            for (int k = 0; k < parts.get(file)[0]; k++) {
                votes[rest % 4]++;
                rest /= 4;
            }
            for (int digest = 0; digest < 4; digest++) {
                if (votes[digest] > parts.get(file)[0] - votes[digest]) {
                    return digest;
                }
            }
            return NONE;
        }

        private int lastDay(int[] pattern) {
            int day = pattern[0];
            for (int issue = 1; issue < pattern[2]; issue++) {
                day += pattern[1];
            }
            return day;
        }

        boolean ends(int pattern) {
            return kind == 2 && has(pattern) && lastDay(parts.get(pattern)) <= 1500;
        }

        int planted(int what) {
            if (what < 0 || what > 7) {
                return NONE;
            }
            int found = 0;
            int before = 0;
            for (int i = 0; i < parts.size(); i++) {
                int[] p = parts.get(i);
                boolean[] is = {kind == 0 && titles.get(i).isEmpty(), kind == 0 && p[1] == 0,
                    kind == 0 && p[2] >= 0, kind == 1 && majority(i) == NONE,
                    kind == 2 && lastDay(p) == 1500, kind == 3 && p[2] > 0,
                    kind == 4 && p[1] >= 0, kind == 5 && p[2] == before};
                before = p[2];
                found += is[what] ? 1 : 0;
            }
            return found;
        }

        private Set<Integer> all() {
            Set<Integer> all = new TreeSet<>();
            for (int i = 0; i < parts.size(); i++) {
                all.add(i);
            }
            return all;
        }

        void verdict(int bits, boolean stays) {
            Set<Integer> row = new TreeSet<>();
            for (int i : all()) {
                if ((bits >>> i & 1) == 1) {
                    row.add(i);
                }
            }
            List<Set<Integer>> rows = stays ? needed : together;
            if (!parts.isEmpty() && rows.size() < 6) {
                rows.add(row);
            }
        }

        private boolean stays(Set<Integer> set) {
            for (Set<Integer> row : together) {
                Set<Integer> had = new TreeSet<>(row);
                had.retainAll(set);
                if (!had.isEmpty() && !had.equals(row)) {
                    return false;
                }
            }
            for (Set<Integer> row : needed) {
                if (set.containsAll(row)) {
                    return true;
                }
            }
            return false;
        }

        int shorter() {
            left = all();
            boolean going = stays(left);
            while (going) {
                going = false;
                for (int p = parts.size() - 1; p >= 0; p--) {
                    if (left.remove(p)) {
                        if (stays(left)) {
                            going = true;
                        } else {
                            left.add(p);
                        }
                    }
                }
            }
            return left.size();
        }

        int left(int i) {
            return i >= 0 && i < left.size() ? new ArrayList<>(left).get(i) : NONE;
        }

        boolean minimal() {
            boolean minimal = stays(left);
            for (int p : left) {
                Set<Integer> set = new TreeSet<>(left);
                set.remove(p);
                minimal &= !stays(set);
            }
            return minimal;
        }

        boolean same(long other, int aKind, int size) {
            Model one = new Model(seed);
            Model two = new Model(other);
            if (one.draw(aKind, size) == NONE || two.draw(aKind, size) == NONE) {
                return false;
            }
            boolean same = one.signs().equals(two.signs());
            for (int i = 0; i <= size; i++) {
                for (int what = 0; what < 3; what++) {
                    same &= one.part(i, what) == two.part(i, what);
                }
            }
            return same;
        }
    }
}
