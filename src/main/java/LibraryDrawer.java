/**
 * Cases of a library drawn by a seed: records with rules broken, copies that vote, patterns with
 * dates, packages with losses, readers, acts; and smaller cases for which a verdict stays.
 */
public final class LibraryDrawer {
    public static final int NONE = -1;

    private static final int RECORDS = 0;
    private static final int FILES = 1;
    private static final int PATTERNS = 2;
    private static final int LINES = 3;
    private static final int READERS = 4;
    private static final int ACTS = 5;

    private static final int MOST_SIZE = 20;
    private static final int MOST_PARTS = MOST_SIZE + 1;
    private static final int WHATS = 3;
    private static final int PLANTED_WHATS = 8;
    private static final int MOST_LETTERS = 6;
    private static final int MOST_SIGNS = MOST_PARTS * (MOST_LETTERS + 1);
    private static final int TITLE_END = 10;
    private static final int DIGESTS = 3;
    private static final int BITS_OF_A_DIGEST = 2;
    private static final int LAST_DAY = 1500;
    private static final int MOST_ROWS = 6;

    private final long seed;
    private final Case drawn = new Case();
    // "same" draws beside what was drawn; its two cases are kept so that no call makes objects.
    private final Case ours = new Case();
    private final Case theirs = new Case();
    private final Rows needed = new Rows();
    private final Rows together = new Rows();
    private int leftParts = 0;

    public LibraryDrawer(long seed) {
        this.seed = seed;
    }

    public int draw(int kind, int size) {
        if (!canBeDrawn(kind, size)) {
            return NONE;
        }
        drawn.fill(seed, kind, size);
        needed.clear();
        together.clear();
        leftParts = drawn.allParts();
        return drawn.count();
    }

    public int part(int i, int what) {
        return drawn.number(i, what);
    }

    public int letter(int i) {
        return drawn.sign(i);
    }

    public int majority(int file) {
        return drawn.winner(file);
    }

    public boolean ends(int pattern) {
        return drawn.isPattern(pattern) && drawn.lastDay(pattern) <= LAST_DAY;
    }

    public int planted(int what) {
        if (what < 0 || what >= PLANTED_WHATS) {
            return NONE;
        }
        int found = 0;
        for (int i = 0; i < drawn.count(); i++) {
            if (drawn.shows(i, what)) {
                found++;
            }
        }
        return found;
    }

    public void verdict(int bits, boolean stays) {
        if (drawn.count() == 0) {
            return;
        }
        int row = bits & drawn.allParts();
        if (stays) {
            needed.add(row);
        } else {
            together.add(row);
        }
    }

    public int shorter() {
        leftParts = smallerCase(drawn.allParts());
        return Integer.bitCount(leftParts);
    }

    public int left(int i) {
        int before = 0;
        for (int p = 0; p < drawn.count(); p++) {
            if (isIn(p, leftParts)) {
                if (before == i) {
                    return p;
                }
                before++;
            }
        }
        return NONE;
    }

    public boolean minimal() {
        if (!staysFor(leftParts)) {
            return false;
        }
        for (int p = 0; p < drawn.count(); p++) {
            if (isIn(p, leftParts) && staysFor(without(p, leftParts))) {
                return false;
            }
        }
        return true;
    }

    public boolean same(long other, int kind, int size) {
        if (!canBeDrawn(kind, size)) {
            return false;
        }
        ours.fill(seed, kind, size);
        theirs.fill(other, kind, size);
        return sameParts() && sameSigns();
    }

    private static boolean canBeDrawn(int kind, int size) {
        return kind >= RECORDS && kind <= ACTS && size >= 0 && size <= MOST_SIZE;
    }

    private boolean sameParts() {
        for (int i = 0; i < MOST_PARTS; i++) {
            for (int what = 0; what < WHATS; what++) {
                if (ours.number(i, what) != theirs.number(i, what)) {
                    return false;
                }
            }
        }
        return true;
    }

    private boolean sameSigns() {
        for (int i = 0; i < MOST_SIGNS; i++) {
            if (ours.sign(i) != theirs.sign(i)) {
                return false;
            }
        }
        return true;
    }

    private boolean staysFor(int set) {
        return needed.oneIsWithin(set) && !together.oneIsTornBy(set);
    }

    private int smallerCase(int all) {
        if (!staysFor(all)) {
            return all;
        }
        int set = all;
        // Each going but the last leaves out a part, so there are never more goings than this.
        for (int going = 0; going <= MOST_PARTS; going++) {
            int smaller = afterOneGoing(set);
            if (smaller == set) {
                break;
            }
            set = smaller;
        }
        return set;
    }

    private int afterOneGoing(int set) {
        int smaller = set;
        for (int p = MOST_PARTS - 1; p >= 0; p--) {
            if (isIn(p, smaller) && staysFor(without(p, smaller))) {
                smaller = without(p, smaller);
            }
        }
        return smaller;
    }

    private static boolean isIn(int p, int set) {
        return (set & (1 << p)) != 0;
    }

    private static int without(int p, int set) {
        return set & ~(1 << p);
    }

    /** Rows of parts that were told, each as bits. */
    private static final class Rows {
        private final int[] rows = new int[MOST_ROWS];
        private int told = 0;

        void clear() {
            told = 0;
        }

        void add(int row) {
            if (told >= 0 && told < rows.length) {
                rows[told] = row;
                told++;
            }
        }

        boolean oneIsWithin(int set) {
            for (int r = 0; r < told && r < rows.length; r++) {
                if ((rows[r] & set) == rows[r]) {
                    return true;
                }
            }
            return false;
        }

        boolean oneIsTornBy(int set) {
            for (int r = 0; r < told && r < rows.length; r++) {
                int had = rows[r] & set;
                if (had != 0 && had != rows[r]) {
                    return true;
                }
            }
            return false;
        }
    }

    /** The parts of one kind and size, as a seed draws them; empty until it is filled. */
    private static final class Case {
        private final int[] numbers = new int[MOST_PARTS * WHATS];
        private final int[] signs = new int[MOST_SIGNS];
        private final int[] titleStarts = new int[MOST_PARTS];
        private long chance = 0;
        private int kind = NONE;
        private int parts = 0;
        private int signsUsed = 0;

        int count() {
            return parts;
        }

        int allParts() {
            return (1 << parts) - 1;
        }

        int number(int i, int what) {
            if (!has(i) || what < 0 || what >= WHATS) {
                return NONE;
            }
            return numbers[i * WHATS + what];
        }

        int sign(int i) {
            if (i < 0 || i >= signsUsed || i >= signs.length) {
                return NONE;
            }
            return signs[i];
        }

        void fill(long seed, int newKind, int size) {
            if (!canBeDrawn(newKind, size)) {
                return;
            }
            chance = seed + 1000003L * newKind + 101L * size;
            kind = newKind;
            parts = size + 1;
            signsUsed = 0;
            for (int i = 0; i < parts; i++) {
                fillPart(i);
            }
        }

        private void fillPart(int i) {
            switch (kind) {
                case RECORDS:
                    fillRecord(i);
                    break;
                case FILES:
                    fillFile(i);
                    break;
                case PATTERNS:
                    fillPattern(i);
                    break;
                case LINES:
                    fillLine(i);
                    break;
                case READERS:
                    fillReader(i);
                    break;
                default:
                    fillAct(i);
                    break;
            }
        }

        private void fillRecord(int i) {
            startTitle(i);
            int like = i > 0 && next(5) == 0 ? next(i) : NONE;
            if (like == NONE) {
                int letters = next(7);
                int year = next(8) == 0 ? 0 : 1900 + next(120);
                put(i, letters, year, NONE);
                for (int k = 0; k < letters; k++) {
                    addSign('a' + next(26));
                }
            } else {
                put(i, number(like, 0), number(like, 1), like);
                repeatTitle(like);
            }
            addSign(TITLE_END);
        }

        private void repeatTitle(int i) {
            if (!has(i)) {
                return;
            }
            int letters = number(i, 0);
            for (int k = 0; k < letters; k++) {
                addSign(sign(titleStarts[i] + k));
            }
        }

        private void startTitle(int i) {
            if (has(i)) {
                titleStarts[i] = signsUsed;
            }
        }

        private void addSign(int sign) {
            if (signsUsed >= 0 && signsUsed < signs.length) {
                signs[signsUsed] = sign;
                signsUsed++;
            }
        }

        private void fillFile(int i) {
            if (i % 2 == 0) {
                fillFileWithWinner(i);
            } else {
                fillFileWithoutWinner(i);
            }
        }

        private void fillFileWithWinner(int i) {
            int copies = 1 + next(5);
            int winning = next(DIGESTS);
            int sure = copies / 2 + 1;
            int digests = 0;
            for (int k = 0; k < copies; k++) {
                int digest = k < sure ? winning : next(DIGESTS);
                digests += digest << (BITS_OF_A_DIGEST * k);
            }
            put(i, copies, digests, 0);
        }

        private void fillFileWithoutWinner(int i) {
            int copies = 2 + next(4);
            int digest = next(DIGESTS);
            int digests = 0;
            for (int k = 0; k < copies; k++) {
                digests += digest << (BITS_OF_A_DIGEST * k);
                digest = digest == DIGESTS - 1 ? 0 : digest + 1;
            }
            put(i, copies, digests, 0);
        }

        private void fillPattern(int i) {
            int day = next(1000);
            int step = 1 + next(60);
            int stepsThatFit = step < 1 ? 0 : (LAST_DAY - day) / step;
            put(i, day, step, 1 + next(stepsThatFit + 1));
        }

        private void fillLine(int i) {
            int size = 1 + next(9);
            int sum = next(1000);
            int loss = next(4) == 0 ? 1 + next(3) : 0;
            put(i, size, sum, loss);
        }

        private void fillReader(int i) {
            int readerKind = next(5);
            int guardian = i > 0 && next(3) == 0 ? next(i) : NONE;
            if (guardian != NONE && number(guardian, 1) != NONE) {
                guardian = NONE;
            }
            put(i, readerKind, guardian, 100 + 10 * i + next(10));
        }

        private void fillAct(int i) {
            int which = next(6);
            int on = next(parts);
            put(i, which, on, timeBefore(i) + next(5));
        }

        private int timeBefore(int i) {
            return i > 0 ? number(i - 1, 2) : 0;
        }

        private int next(int n) {
            chance = chance * 6364136223846793005L + 1442695040888963407L;
            int highest = (int) (chance >>> 33);
            return n < 1 ? 0 : highest % n;
        }

        private void put(int i, int what0, int what1, int what2) {
            if (has(i)) {
                numbers[i * WHATS] = what0;
                numbers[i * WHATS + 1] = what1;
                numbers[i * WHATS + 2] = what2;
            }
        }

        private boolean has(int i) {
            return i >= 0 && i < parts && i < MOST_PARTS;
        }

        int winner(int file) {
            if (kind != FILES || !has(file)) {
                return NONE;
            }
            for (int digest = 0; digest < DIGESTS; digest++) {
                if (2 * votes(file, digest) > number(file, 0)) {
                    return digest;
                }
            }
            return NONE;
        }

        private int votes(int file, int digest) {
            int copies = number(file, 0);
            int digests = number(file, 1);
            int mask = (1 << BITS_OF_A_DIGEST) - 1;
            int votes = 0;
            for (int k = 0; k < copies; k++) {
                if (((digests >> (BITS_OF_A_DIGEST * k)) & mask) == digest) {
                    votes++;
                }
            }
            return votes;
        }

        boolean isPattern(int i) {
            return kind == PATTERNS && has(i);
        }

        int lastDay(int pattern) {
            return number(pattern, 0) + (number(pattern, 2) - 1) * number(pattern, 1);
        }

        /** Whether part i is one of those that "planted" counts. */
        boolean shows(int i, int what) {
            switch (what) {
                case 0:
                    return kind == RECORDS && number(i, 0) == 0;
                case 1:
                    return kind == RECORDS && number(i, 1) == 0;
                case 2:
                    return kind == RECORDS && number(i, 2) != NONE;
                case 3:
                    return kind == FILES && winner(i) == NONE;
                case 4:
                    return isPattern(i) && lastDay(i) == LAST_DAY;
                case 5:
                    return kind == LINES && number(i, 2) != 0;
                case 6:
                    return kind == READERS && number(i, 1) != NONE;
                case 7:
                    return kind == ACTS && number(i, 2) == timeBefore(i);
                default:
                    return false;
            }
        }
    }
}
