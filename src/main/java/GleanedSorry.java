/**
 * Fields that are open at dawn to whoever is sorry.
 *
 * <p>All rows are made in the constructor and used again, so that no later call makes an object.
 */
public final class GleanedSorry {
    private static final int LOW = -1000000000;
    private static final int BEYOND = 1;
    private static final int NONE = 2;
    private static final int STATE = 3;
    private static final int FULL = 4;
    private static final int KIND = 5;

    private static final int MOST_CELLS = 10;
    private static final int MOST_PEOPLE = 6;
    private static final int MOST_WRONGS = 8;
    private static final int MOST_EARS = 999;
    private static final int MOST_LOW = 9;
    private static final int MOST_BAG = 9999;
    private static final int MOST_HUNGRY = 9999;
    private static final int LAST_DAWN = 9999;
    private static final int MOST_KM = 69;
    private static final int MOST_BYTES = 50;
    private static final int MOST_WAITING = 20;
    private static final int MOST_TRACED = 40;
    private static final int SHEETS = 4;
    private static final int MOST_NUMBERS = 40;
    private static final int FAR = 60;

    /** Of each KIND the one above it. */
    private static final int[] ABOVE = {-1, 0, 0, 0, 1, 2, 3};

    private final Gleaner[] kinds;
    private final Kept now;
    private final Kept kept;
    private final Field thought;
    private final Law draft = new Law(0);
    private final Row bodies = new Row(MOST_TRACED);
    private final Row[] sheets = new Row[SHEETS];
    private final int[] bitsOf = new int[SHEETS];
    private final int[] errors = new int[6];
    private int images = 0;

    public GleanedSorry() {
        Gleaner[] all = new Gleaner[7];
        all[0] = new Gleaner();
        all[1] = new Sister();
        all[2] = new Curate();
        all[3] = new Sinner();
        all[4] = new Lover();
        all[5] = new Overseer();
        all[6] = new Professional();
        Law bending = new Law(0);
        Law picking = new Law(1);
        kinds = all;
        now = new Kept(new Field(all, bending, picking));
        thought = new Field(all, bending, picking);
        kept = new Kept(new Field(all, new Law(0), new Law(1)));
        for (int i = 0; i < SHEETS; i++) {
            sheets[i] = new Row(MOST_NUMBERS);
        }
    }

    // ---- cells, people, wrongs

    public int field(int n) {
        if (!within(n, 2, MOST_CELLS)) {
            return error(BEYOND);
        }
        if (now.field.people > 0) {
            return error(STATE);
        }
        int before = now.field.cells;
        now.field.reap(n);
        return before;
    }

    public int lay(int cell, int what, int v) {
        if (!isCell(cell) || !within(what, 0, 1) || !within(v, 0, what == 0 ? MOST_EARS : MOST_LOW)) {
            return error(BEYOND);
        }
        int[] row = what == 0 ? now.field.ears : now.field.low;
        int before = row[cell];
        row[cell] = v;
        return before;
    }

    public int ofCell(int cell, int what) {
        if (!isCell(cell) || !within(what, 0, 2)) {
            return error(BEYOND);
        }
        switch (what) {
            case 0:
                return now.field.ears[cell];
            case 1:
                return now.field.low[cell];
            default:
                return now.field.whoIsAt(cell);
        }
    }

    public int person(int km, int cell) {
        if (!within(km, 0, MOST_KM) || !isCell(cell)) {
            return error(BEYOND);
        }
        if (now.field.people >= MOST_PEOPLE) {
            return error(FULL);
        }
        return now.field.welcome(km / 10, km % 10, cell);
    }

    public int ofPerson(int person, int what) {
        if (!isPerson(person) || !within(what, 0, 8)) {
            return error(BEYOND);
        }
        Field f = now.field;
        now.weigh(f, 0);
        switch (what) {
            case 0:
                return f.kind[person];
            case 1:
                return f.m[person];
            case 2:
                return f.at[person];
            case 3:
                return f.way[person];
            case 4:
                return f.bag[person];
            case 5:
                return f.hungry[person];
            case 6:
                return f.weighs[person];
            case 7:
                return f.bendsOf(person);
            default:
                return f.eatsOf(person);
        }
    }

    public int change(int person, int what, int v) {
        if (!isPerson(person)) {
            return error(BEYOND);
        }
        int[] row;
        boolean fits;
        switch (what) {
            case 0:
                row = now.field.at;
                fits = isCell(v);
                break;
            case 1:
                row = now.field.way;
                fits = within(v, -1, 1);
                break;
            case 2:
                row = now.field.bag;
                fits = within(v, 0, MOST_BAG);
                break;
            default:
                return error(BEYOND);
        }
        if (!fits) {
            return error(BEYOND);
        }
        int before = row[person];
        row[person] = v;
        return before;
    }

    public int become(int person, int km) {
        if (!isPerson(person) || !within(km, 0, MOST_KM)) {
            return error(BEYOND);
        }
        int before = now.field.kind[person];
        now.field.kind[person] = km / 10;
        now.field.m[person] = km % 10;
        return before;
    }

    public int as(int person, int kind) {
        if (!isPerson(person) || !within(kind, 0, ABOVE.length - 1)) {
            return error(BEYOND);
        }
        if (!isOrIsUnder(now.field.kind[person], kind)) {
            return error(KIND);
        }
        return now.field.m[person];
    }

    public int wrong(int by, int to, int weight) {
        if (!isPerson(by) || !isPerson(to) || by == to || !within(weight, 1, 20)) {
            return error(BEYOND);
        }
        if (now.wrongs >= MOST_WRONGS) {
            return error(FULL);
        }
        return now.addWrong(by, to, weight);
    }

    public int ofWrong(int wrong, int what) {
        if (!isWrong(wrong) || !within(what, 0, 2)) {
            return error(BEYOND);
        }
        switch (what) {
            case 0:
                return now.by[wrong];
            case 1:
                return now.to[wrong];
            default:
                return now.weight[wrong];
        }
    }

    public int forgive(int wrong) {
        if (!isWrong(wrong)) {
            return error(BEYOND);
        }
        now.dropWrong(wrong);
        return now.wrongs;
    }

    public int borrow(int wrong, int by) {
        if (!isWrong(wrong) || !isPerson(by) || now.to[wrong] == by) {
            return error(BEYOND);
        }
        int before = now.by[wrong];
        now.by[wrong] = by;
        return before;
    }

    // ---- texts

    public int feed(long word, int n) {
        if (!within(n, 1, 8)) {
            return error(BEYOND);
        }
        if (now.tape.size + n > MOST_BYTES) {
            return error(FULL);
        }
        for (int i = 0; i < n; i++) {
            now.tape.add((int) (word >>> (8 * i)) & 255);
        }
        return now.tape.size;
    }

    public int text(int use) {
        if (!within(use, 0, 1)) {
            return error(BEYOND);
        }
        int fault = draft.faultIn(now.tape, use);
        now.tape.size = 0;
        if (fault >= 0) {
            return -10 - fault;
        }
        now.lawOf(use).code.copyFrom(draft.code);
        return 1;
    }

    public int law(int use, int a, int b, int c) {
        if (!within(use, 0, 1)) {
            return error(BEYOND);
        }
        return now.lawOf(use).gives(a, b, c);
    }

    // ---- dawns

    public int dawns(int n) {
        if (!within(n, 1, FAR)) {
            return error(BEYOND);
        }
        if (now.field.dawn + n > LAST_DAWN) {
            return error(STATE);
        }
        now.weigh(now.field, 0);
        for (int i = 0; i < n; i++) {
            now.field.passDawn();
        }
        return now.field.allBags();
    }

    public int loose(int n) {
        if (!within(n, 1, 40)) {
            return error(BEYOND);
        }
        if (now.field.dawn + n > LAST_DAWN) {
            return error(STATE);
        }
        now.weigh(now.field, 0);
        for (int i = 0; i < n; i++) {
            now.drawWay();
            now.field.passDawn();
        }
        return now.field.allBags();
    }

    // ---- what would be

    public int then(int n, int person, int what) {
        if (!within(n, 0, FAR) || !isPerson(person) || !within(what, 0, 1)) {
            return error(BEYOND);
        }
        imagine(0);
        for (int i = 0; i < n; i++) {
            thought.passDawn();
        }
        return what == 0 ? thought.bag[person] : thought.hungry[person];
    }

    public int upright(int what) {
        if (!within(what, 0, 1)) {
            return error(BEYOND);
        }
        imagine(0);
        for (int i = 1; i <= FAR; i++) {
            thought.passDawn();
            int who = thought.firstHungrierThan(now.field);
            if (who >= 0) {
                return what == 0 ? i : who;
            }
        }
        return error(NONE);
    }

    public int adds(int person, int n) {
        if (!isPerson(person) || !within(n, 0, FAR)) {
            return error(BEYOND);
        }
        for (int more = 0; more <= 40; more++) {
            imagine(0);
            thought.weighs[person] += more;
            if (staysFed(person, n)) {
                return more;
            }
        }
        return error(NONE);
    }

    public int pardons(int n) {
        if (!within(n, 0, 20)) {
            return error(BEYOND);
        }
        int sets = 1 << now.wrongs;
        for (int size = now.wrongs; size >= 0; size--) {
            for (int set = 0; set < sets; set++) {
                if (Integer.bitCount(set) == size && allStayFed(set, n)) {
                    return set;
                }
            }
        }
        return error(NONE);
    }

    public int starves(int n) {
        if (!within(n, 0, FAR)) {
            return error(BEYOND);
        }
        int set = 0;
        for (int p = 0; p < now.field.people; p++) {
            imagine(now.doneBy(p));
            if (!staysFed(p, n)) {
                set |= 1 << p;
            }
        }
        return set;
    }

    public int best(int person, int n, int what) {
        if (!isPerson(person) || !within(n, 0, FAR) || !within(what, 0, 1)) {
            return error(BEYOND);
        }
        int bestCell = 0;
        int bestBag = -1;
        for (int cell = 0; cell < now.field.cells; cell++) {
            imagine(0);
            thought.at[person] = cell;
            for (int i = 0; i < n; i++) {
                thought.passDawn();
            }
            if (thought.bag[person] > bestBag) {
                bestBag = thought.bag[person];
                bestCell = cell;
            }
        }
        return what == 0 ? bestCell : bestBag;
    }

    public int brings(int sheet, int person, int what) {
        if (!isSheet(sheet) || !isPerson(person) || !within(what, 0, 1)) {
            return error(BEYOND);
        }
        if (bitsOf[sheet] == 0) {
            return error(NONE);
        }
        int many = 0;
        int least = -1;
        for (int w = 0; w <= 99; w++) {
            imagine(0);
            thought.weighs[person] = w;
            if (picksAsTold(person, sheets[sheet])) {
                many++;
                least = least < 0 ? w : least;
            }
        }
        if (what == 0) {
            return many;
        }
        return many == 0 ? error(NONE) : least;
    }

    public int shares(int n, int what) {
        if (!within(n, 1, 30) || !within(what, -1, now.field.people - 1)) {
            return error(BEYOND);
        }
        int left = now.field.allBags();
        for (int p = 0; p < now.field.people; p++) {
            int gets = Math.min(left, n * now.field.eatsOf(p));
            if (p == what) {
                return gets;
            }
            left -= gets;
        }
        return left;
    }

    public int odds(int person, int n, int part) {
        if (!isPerson(person) || !within(n, 0, FAR) || !within(part, 0, 1)) {
            return error(BEYOND);
        }
        if (now.wrongs == 0) {
            return error(STATE);
        }
        int good = 0;
        for (int i = 0; i < now.wrongs; i++) {
            imagine(1 << i);
            if (staysFed(person, n)) {
                good++;
            }
        }
        int shared = greatestShared(good, now.wrongs);
        if (shared == 0) {
            return 0;
        }
        return (part == 0 ? good : now.wrongs) / shared;
    }

    // ---- draws, voices, sheets, images, what is told

    public int seed(int v) {
        int before = now.z;
        now.z = v;
        return before;
    }

    public int voice(int person, int act, int x) {
        if (!isPerson(person) || !within(act, 0, 3)) {
            return error(BEYOND);
        }
        bodies.size = 0;
        Gleaner one = kinds[now.field.kind[person]];
        int m = now.field.m[person];
        switch (act) {
            case 0:
                return one.bows(bodies, person, m, x);
            case 1:
                return one.picks(bodies, person, m, x);
            case 2:
                return one.sighs(bodies, person, m, x);
            default:
                return one.stands(bodies, person, m, x);
        }
    }

    public int trace(int i) {
        return bodies.has(i) ? bodies.items[i] : error(NONE);
    }

    public int sheet(int sheet, int bits, int n) {
        if (!isSheet(sheet) || (bits != 0 && bits != 8 && bits != 16 && bits != 32)) {
            return error(BEYOND);
        }
        if (bits != 0 && n < 0) {
            return error(STATE);
        }
        if (bits != 0 && n > MOST_NUMBERS) {
            return error(BEYOND);
        }
        bitsOf[sheet] = bits;
        sheets[sheet].zeros(bits == 0 ? 0 : n);
        return 1;
    }

    public int put(int sheet, int i, int v) {
        if (!isSheet(sheet)) {
            return error(BEYOND);
        }
        if (bitsOf[sheet] == 0) {
            return error(NONE);
        }
        if (!sheets[sheet].has(i)) {
            return error(BEYOND);
        }
        sheets[sheet].items[i] = lowestBits(bitsOf[sheet], v);
        return 1;
    }

    public int move(int sheet, int i, int other, int j, int n) {
        if (!isSheet(sheet) || !isSheet(other)) {
            return error(BEYOND);
        }
        if (bitsOf[sheet] == 0 || bitsOf[other] == 0) {
            return error(NONE);
        }
        if (bitsOf[sheet] != bitsOf[other]) {
            return error(KIND);
        }
        if (!sheets[sheet].hasPart(i, n) || !sheets[other].hasPart(j, n)) {
            return error(BEYOND);
        }
        System.arraycopy(sheets[sheet].items, i, sheets[other].items, j, n);
        return n;
    }

    public int ears(int sheet) {
        if (!isSheet(sheet)) {
            return error(BEYOND);
        }
        if (bitsOf[sheet] == 0) {
            return error(NONE);
        }
        Row row = sheets[sheet];
        int most = Math.min(row.size, now.field.cells);
        for (int i = 0; i < most; i++) {
            if (!within(row.items[i], 0, MOST_EARS)) {
                return i;
            }
            now.field.ears[i] = row.items[i];
        }
        return most;
    }

    public int judge(int sheet) {
        if (!isSheet(sheet)) {
            return error(BEYOND);
        }
        if (bitsOf[sheet] == 0) {
            return error(NONE);
        }
        Row row = sheets[sheet];
        int both = Math.min(row.size, now.field.people);
        for (int i = 0; i < both; i++) {
            if (row.items[i] != now.field.bag[i]) {
                return i;
            }
        }
        return row.size == now.field.people ? -1 : both;
    }

    public int image() {
        kept.copyFrom(now);
        images++;
        return images;
    }

    public int restore() {
        if (images == 0) {
            return error(NONE);
        }
        now.copyFrom(kept);
        return now.field.dawn;
    }

    public int tell(int v) {
        if (now.waiting.size >= MOST_WAITING) {
            return error(FULL);
        }
        now.waiting.add(v);
        return now.waiting.size;
    }

    public int check() {
        int waited = now.waiting.size;
        now.waiting.size = 0;
        imagine(0);
        for (int i = 0; i < waited; i++) {
            thought.passDawn();
            if (thought.allBags() != now.waiting.items[i]) {
                return 1 + i;
            }
        }
        return 0;
    }

    public int count(int what) {
        switch (what) {
            case 0:
                return now.field.cells;
            case 1:
                return now.field.people;
            case 2:
                return now.wrongs;
            case 3:
                return now.field.dawn;
            case 4:
                return sumOf(now.field.ears, now.field.cells);
            case 5:
                return now.field.allBags();
            case 6:
                return sumOf(now.field.hungry, now.field.people);
            case 7:
                return now.tape.size;
            case 8:
                return now.waiting.size;
            case 9:
                return bodies.size;
            case 10:
                return now.z;
            default:
                return error(BEYOND);
        }
    }

    public int told(int k) {
        return within(k, 1, 5) ? errors[k] : error(BEYOND);
    }

    // ---- what the calls above share

    /** Counted here and not by the answer: seed() and voice() may answer such a number without an ERROR. */
    private int error(int k) {
        errors[k]++;
        return LOW - k;
    }

    private static boolean within(int v, int least, int most) {
        return v >= least && v <= most;
    }

    private boolean isCell(int cell) {
        return within(cell, 0, now.field.cells - 1);
    }

    private boolean isPerson(int person) {
        return within(person, 0, now.field.people - 1);
    }

    private boolean isWrong(int wrong) {
        return within(wrong, 0, now.wrongs - 1);
    }

    private static boolean isSheet(int sheet) {
        return within(sheet, 0, SHEETS - 1);
    }

    private static boolean isOrIsUnder(int kind, int above) {
        int k = kind;
        for (int i = 0; i < ABOVE.length && k >= 0 && k < ABOVE.length; i++) {
            if (k == above) {
                return true;
            }
            k = ABOVE[k];
        }
        return false;
    }

    /** Numbers of a SHEET have a sign in all three widths, as Java's own numbers of so many bits have. */
    private static int lowestBits(int bits, int v) {
        switch (bits) {
            case 8:
                return (byte) v;
            case 16:
                return (short) v;
            default:
                return v;
        }
    }

    private static int sumOf(int[] row, int n) {
        int sum = 0;
        for (int i = 0; i < n && i < row.length; i++) {
            sum += row[i];
        }
        return sum;
    }

    private static int greatestShared(int a, int b) {
        int x = a;
        int y = b;
        for (int i = 0; i < 100 && y != 0; i++) {
            int rest = x % y;
            x = y;
            y = rest;
        }
        return x;
    }

    /** The thought becomes as all is now, but for the WRONGS of a set, which weigh on nobody there. */
    private void imagine(int forgiven) {
        thought.copyFrom(now.field);
        now.weigh(thought, forgiven);
    }

    /** HUNGRY never gets less, so the first DAWN that adds to it settles the question. */
    private boolean staysFed(int person, int n) {
        int before = now.field.hungry[person];
        for (int i = 0; i < n; i++) {
            thought.passDawn();
            if (thought.hungry[person] > before) {
                return false;
            }
        }
        return true;
    }

    private boolean allStayFed(int forgiven, int n) {
        imagine(forgiven);
        for (int i = 0; i < n; i++) {
            thought.passDawn();
            if (thought.firstHungrierThan(now.field) >= 0) {
                return false;
            }
        }
        return true;
    }

    private boolean picksAsTold(int person, Row told) {
        for (int i = 0; i < told.size; i++) {
            thought.passDawn();
            if (thought.picked[person] != told.items[i]) {
                return false;
            }
        }
        return true;
    }

    /** Numbers in order, as many as there is room for. */
    private static final class Row {
        private final int[] items;
        private int size = 0;

        private Row(int room) {
            items = new int[Math.max(room, 0)];
        }

        private boolean has(int i) {
            return i >= 0 && i < size;
        }

        private boolean hasPart(int from, int n) {
            return n >= 0 && from >= 0 && from <= size && n <= size - from;
        }

        private void add(int v) {
            if (size < items.length) {
                items[size] = v;
                size++;
            }
        }

        private void zeros(int n) {
            size = Math.max(0, Math.min(n, items.length));
            for (int i = 0; i < size; i++) {
                items[i] = 0;
            }
        }

        private void copyFrom(Row other) {
            size = Math.min(other.size, items.length);
            System.arraycopy(other.items, 0, items, 0, size);
        }
    }

    /** What a USE gives: a TEXT as a row of steps over a stack; no steps at all without a TEXT. */
    private static final class Law {
        private static final int MOST_OPEN = 5;
        private static final int LEVELS = 5;
        private static final int END = -1;

        private final int use;
        /** Numbers as they are; the three NAMES as -1, -2, -3; signs as their bytes below 0. */
        private final Row code = new Row(MOST_BYTES);
        private final int[] stack = new int[MOST_BYTES];
        private Row source = code;
        private String names = "";
        private int place = 0;

        private Law(int use) {
            this.use = use;
        }

        private int gives(int a, int b, int c) {
            int v;
            if (code.size == 0) {
                v = use == 0 ? a / 2 : a + 1;
            } else {
                v = worked(a, b, c);
            }
            return Math.max(0, Math.min(v, use == 0 ? 9 : 99));
        }

        private int worked(int a, int b, int c) {
            int top = 0;
            for (int i = 0; i < code.size; i++) {
                int step = code.items[i];
                if (step >= -3) {
                    if (top >= stack.length) {
                        return 0;
                    }
                    stack[top] = step >= 0 ? step : step == -1 ? a : step == -2 ? b : c;
                    top++;
                } else if (step == -'!') {
                    if (top < 1) {
                        return 0;
                    }
                    stack[top - 1] = stack[top - 1] == 0 ? 1 : 0;
                } else {
                    if (top < 2) {
                        return 0;
                    }
                    top--;
                    stack[top - 1] = joined(-step, stack[top - 1], stack[top]);
                }
            }
            return top > 0 ? stack[0] : 0;
        }

        private static int joined(int sign, int a, int b) {
            switch (sign) {
                case '|':
                    return a != 0 || b != 0 ? 1 : 0;
                case '&':
                    return a != 0 && b != 0 ? 1 : 0;
                case '<':
                    return a < b ? 1 : 0;
                case '=':
                    return a == b ? 1 : 0;
                case '>':
                    return a > b ? 1 : 0;
                case '+':
                    return a + b;
                case '-':
                    return a - b;
                case '*':
                    return a * b;
                case '/':
                    return b == 0 ? 0 : a / b;
                case '%':
                    return b == 0 ? 0 : a % b;
                default:
                    return 0;
            }
        }

        /** Reads a TAPE as a TEXT of a USE into the code: the FAULT, or -1 if there is none. */
        private int faultIn(Row tape, int ofUse) {
            source = tape;
            names = ofUse == 0 ? "wmd" : "bem";
            place = 0;
            code.size = 0;
            boolean whole = readLevel(0, 0);
            return whole && place == source.size ? -1 : place;
        }

        private int here() {
            return source.has(place) ? source.items[place] : END;
        }

        /** Reads parts of a level with its signs between; false: the byte at the place doesn't go on. */
        private boolean readLevel(int level, int open) {
            if (level >= LEVELS) {
                return readUnit(open);
            }
            if (!readLevel(level + 1, open)) {
                return false;
            }
            for (int i = 0; i < MOST_BYTES && levelOf(here()) == level; i++) {
                int sign = here();
                place++;
                if (!readLevel(level + 1, open)) {
                    return false;
                }
                code.add(-sign);
                if (sign == '<' || sign == '=' || sign == '>') {
                    return true;
                }
            }
            return true;
        }

        private static int levelOf(int sign) {
            switch (sign) {
                case '|':
                    return 0;
                case '&':
                    return 1;
                case '<':
                case '=':
                case '>':
                    return 2;
                case '+':
                case '-':
                    return 3;
                case '*':
                case '/':
                case '%':
                    return 4;
                default:
                    return LEVELS;
            }
        }

        private boolean readUnit(int open) {
            int sign = here();
            if (isDigit(sign)) {
                readNumber();
                return true;
            }
            if (sign == '!' || sign == '(') {
                return open < MOST_OPEN && readOpened(sign, open + 1);
            }
            int name = sign < 0 ? -1 : names.indexOf((char) sign);
            if (name < 0) {
                return false;
            }
            code.add(-1 - name);
            place++;
            return true;
        }

        private boolean readOpened(int sign, int open) {
            place++;
            if (sign == '!') {
                boolean read = readUnit(open);
                code.add(-'!');
                return read;
            }
            if (!readLevel(0, open) || here() != ')') {
                return false;
            }
            place++;
            return true;
        }

        private void readNumber() {
            int v = 0;
            for (int i = 0; i < 4 && isDigit(here()); i++) {
                v = v * 10 + here() - '0';
                place++;
            }
            code.add(v);
        }

        private static boolean isDigit(int sign) {
            return sign >= '0' && sign <= '9';
        }
    }

    /**
     * CELLS, PEOPLE and the DAWN, and how a DAWN goes: either as all is, or as it would be. A thought shares the
     * laws with what it is a thought of, so copying leaves them out.
     */
    private static final class Field {
        private int cells = 0;
        private final int[] ears = new int[MOST_CELLS];
        private final int[] low = new int[MOST_CELLS];
        private int dawn = 0;
        private int people = 0;
        private final int[] kind = new int[MOST_PEOPLE];
        private final int[] m = new int[MOST_PEOPLE];
        private final int[] at = new int[MOST_PEOPLE];
        private final int[] way = new int[MOST_PEOPLE];
        private final int[] bag = new int[MOST_PEOPLE];
        private final int[] hungry = new int[MOST_PEOPLE];
        /** As the latest weighing left it, so that a thought may weigh otherwise. */
        private final int[] weighs = new int[MOST_PEOPLE];
        /** At the latest DAWN. */
        private final int[] picked = new int[MOST_PEOPLE];
        private final Gleaner[] kinds;
        private final Law bending;
        private final Law picking;

        private Field(Gleaner[] kinds, Law bending, Law picking) {
            this.kinds = kinds;
            this.bending = bending;
            this.picking = picking;
            reap(5);
        }

        private void reap(int n) {
            cells = Math.max(0, Math.min(n, MOST_CELLS));
            for (int i = 0; i < cells; i++) {
                ears[i] = 20;
                low[i] = 1;
            }
        }

        private void copyFrom(Field other) {
            cells = other.cells;
            System.arraycopy(other.ears, 0, ears, 0, MOST_CELLS);
            System.arraycopy(other.low, 0, low, 0, MOST_CELLS);
            dawn = other.dawn;
            people = other.people;
            System.arraycopy(other.kind, 0, kind, 0, MOST_PEOPLE);
            System.arraycopy(other.m, 0, m, 0, MOST_PEOPLE);
            System.arraycopy(other.at, 0, at, 0, MOST_PEOPLE);
            System.arraycopy(other.way, 0, way, 0, MOST_PEOPLE);
            System.arraycopy(other.bag, 0, bag, 0, MOST_PEOPLE);
            System.arraycopy(other.hungry, 0, hungry, 0, MOST_PEOPLE);
        }

        private int welcome(int ofKind, int withM, int cell) {
            if (people >= MOST_PEOPLE) {
                return -1;
            }
            int p = people;
            kind[p] = ofKind;
            m[p] = withM;
            at[p] = cell;
            way[p] = 0;
            bag[p] = 0;
            hungry[p] = 0;
            people++;
            return p;
        }

        private int whoIsAt(int cell) {
            int set = 0;
            for (int p = 0; p < people; p++) {
                if (at[p] == cell) {
                    set |= 1 << p;
                }
            }
            return set;
        }

        private int bendsOf(int p) {
            int v = bending.gives(weighs[p], m[p], dawn);
            return kinds[kind[p]].bends(v, m[p], whoIsAt(at[p]) != 1 << p);
        }

        private int eatsOf(int p) {
            return kinds[kind[p]].eats(m[p]);
        }

        private int burdenOf(int p) {
            return kinds[kind[p]].burden(m[p]);
        }

        private int allBags() {
            return sumOf(bag, people);
        }

        private int firstHungrierThan(Field before) {
            for (int p = 0; p < people; p++) {
                if (hungry[p] > before.hungry[p]) {
                    return p;
                }
            }
            return -1;
        }

        private void passDawn() {
            for (int p = 0; p < people; p++) {
                pick(p);
            }
            for (int p = 0; p < people; p++) {
                walk(p);
            }
            for (int p = 0; p < people; p++) {
                eat(p);
            }
            dawn++;
        }

        private void pick(int p) {
            int cell = at[p];
            picked[p] = 0;
            // Most thoughts end in empty CELLS, where the laws needn't be asked.
            if (ears[cell] == 0) {
                return;
            }
            int bends = bendsOf(p);
            if (bends >= low[cell]) {
                picked[p] = Math.min(ears[cell], picking.gives(bends, ears[cell], m[p]));
            }
            ears[cell] -= picked[p];
            bag[p] = Math.min(MOST_BAG, bag[p] + picked[p]);
        }

        private void walk(int p) {
            int next = at[p] + way[p];
            if (next >= 0 && next < cells) {
                at[p] = next;
            } else {
                way[p] = -way[p];
            }
        }

        private void eat(int p) {
            int eats = eatsOf(p);
            // DAWN alone goes beyond its range in thoughts; HUNGRY stays within its own there, too.
            if (bag[p] < eats && hungry[p] < MOST_HUNGRY) {
                hungry[p]++;
            }
            bag[p] = Math.max(0, bag[p] - eats);
        }
    }

    /** All that an IMAGE keeps. */
    private static final class Kept {
        private final Field field;
        private int wrongs = 0;
        private final int[] by = new int[MOST_WRONGS];
        private final int[] to = new int[MOST_WRONGS];
        private final int[] weight = new int[MOST_WRONGS];
        private final Row tape = new Row(MOST_BYTES);
        private final Row waiting = new Row(MOST_WAITING);
        private int z = 1;

        private Kept(Field field) {
            this.field = field;
        }

        private void copyFrom(Kept other) {
            field.bending.code.copyFrom(other.field.bending.code);
            field.picking.code.copyFrom(other.field.picking.code);
            field.copyFrom(other.field);
            wrongs = other.wrongs;
            System.arraycopy(other.by, 0, by, 0, MOST_WRONGS);
            System.arraycopy(other.to, 0, to, 0, MOST_WRONGS);
            System.arraycopy(other.weight, 0, weight, 0, MOST_WRONGS);
            tape.copyFrom(other.tape);
            waiting.copyFrom(other.waiting);
            z = other.z;
        }

        private Law lawOf(int use) {
            return use == 0 ? field.bending : field.picking;
        }

        private int addWrong(int from, int onto, int heavy) {
            if (wrongs >= MOST_WRONGS) {
                return -1;
            }
            int i = wrongs;
            by[i] = from;
            to[i] = onto;
            weight[i] = heavy;
            wrongs++;
            return i;
        }

        private void dropWrong(int gone) {
            for (int i = Math.max(gone, 0); i + 1 < wrongs; i++) {
                by[i] = by[i + 1];
                to[i] = to[i + 1];
                weight[i] = weight[i + 1];
            }
            wrongs--;
        }

        private int doneBy(int person) {
            int set = 0;
            for (int i = 0; i < wrongs; i++) {
                if (by[i] == person) {
                    set |= 1 << i;
                }
            }
            return set;
        }

        /** Lays on everybody in a field what WEIGHS there, the WRONGS of a set being forgiven. */
        private void weigh(Field f, int forgiven) {
            for (int p = 0; p < f.people; p++) {
                f.weighs[p] = f.burdenOf(p);
            }
            for (int i = 0; i < wrongs; i++) {
                if ((forgiven & 1 << i) == 0) {
                    f.weighs[by[i]] += weight[i];
                }
            }
        }

        private int draw() {
            z = z * 1103515245 + 12345;
            return z >>> 8;
        }

        private void drawWay() {
            if (field.people > 0) {
                int p = draw() % field.people;
                field.way[p] = draw() % 3 - 1;
            }
        }
    }

    /** A KIND, and what every KIND has that says nothing else; it holds nothing of any one person. */
    private static class Gleaner {
        int bends(int v, int m, boolean inCompany) {
            return v;
        }

        int eats(int m) {
            return 2;
        }

        int burden(int m) {
            return 0;
        }

        int bows(Row began, int n, int m, int x) {
            began.add(10);
            return x + n;
        }

        int picks(Row began, int n, int m, int x) {
            began.add(11);
            return bows(began, n, m, x) * 2;
        }

        int sighs(Row began, int n, int m, int x) {
            began.add(12);
            return x - m;
        }

        int stands(Row began, int n, int m, int x) {
            began.add(13);
            return picks(began, n, m, x) ^ sighs(began, n, m, x);
        }
    }

    private static class Sister extends Gleaner {
        int bends(int v, int m, boolean inCompany) {
            return inCompany ? Math.max(0, v - 1) : v;
        }

        int eats(int m) {
            return 1;
        }

        int bows(Row began, int n, int m, int x) {
            began.add(20);
            return super.bows(began, n, m, x) * 3;
        }
    }

    private static class Curate extends Gleaner {
        int bends(int v, int m, boolean inCompany) {
            return 0;
        }

        int picks(Row began, int n, int m, int x) {
            began.add(30);
            return super.picks(began, n, m, x) - sighs(began, n, m, 1);
        }
    }

    private static class Sinner extends Gleaner {
        int bends(int v, int m, boolean inCompany) {
            return v + m % 3;
        }

        int sighs(Row began, int n, int m, int x) {
            began.add(40);
            return -super.sighs(began, n, m, x);
        }
    }

    private static final class Lover extends Sister {
        int bends(int v, int m, boolean inCompany) {
            return super.bends(v, m, inCompany) + 1;
        }

        int stands(Row began, int n, int m, int x) {
            began.add(50);
            return super.stands(began, n, m, x) - bows(began, n, m, 2);
        }
    }

    private static final class Overseer extends Curate {
        int bends(int v, int m, boolean inCompany) {
            return m / 2;
        }

        int eats(int m) {
            return super.eats(m) + 1;
        }

        int picks(Row began, int n, int m, int x) {
            began.add(60);
            return super.picks(began, n, m, x + 1);
        }
    }

    private static final class Professional extends Sinner {
        int eats(int m) {
            return super.eats(m) + m % 2;
        }

        int burden(int m) {
            return m;
        }

        int sighs(Row began, int n, int m, int x) {
            began.add(70);
            return super.sighs(began, n, m, x) ^ n;
        }

        int stands(Row began, int n, int m, int x) {
            began.add(71);
            return picks(began, n, m, x) - super.stands(began, n, m, x);
        }
    }
}
