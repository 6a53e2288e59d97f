/**
 * The boundary cases of the promises that name CELLS, PEOPLE, WRONGS, SHEETS, IMAGES and what is told (1 to 13, 30 to
 * 41), and every number of every call that BEYOND bounds: the last ones within, the first ones beyond.
 */
public final class PromiseEdgeTest {
    private static final int BEYOND = Ask.BEYOND;
    private static final int NONE = Ask.NONE;
    private static final int STATE = Ask.STATE;
    private static final int FULL = Ask.FULL;
    private static final int KIND = Ask.KIND;
    private static final int MAX = Ask.MAX;
    private static final int MIN = Ask.MIN;

    private PromiseEdgeTest() {
    }

    public static void main(String[] args) {
        ranges(3, 2, 1, 1);
        ranges(3, 10, 7, 2);
        ranges(6, 5, 8, 40);
        aNewObject();
        field();
        layOnlyThat();
        person();
        changeOnlyThat();
        becomeOnlyThat();
        as();
        wrong();
        borrow();
        sheet();
        put();
        move();
        moveAsTheyWere();
        ears();
        judge();
        image();
        imageStays();
        restore();
        tell();
        check();
        checkLate();
        count();
        told();
        Due.end();
    }

    private static void ranges(int people, int cells, int wrongs, int numbers) {
        for (Range r : Range.all(people, cells, wrongs, numbers)) {
            Due.part(r.name + ", number " + r.place + " within " + r.least + " to " + r.most);
            for (int v : new int[] {r.least, r.most}) {
                int got = Made.rich(people, cells, wrongs, numbers).call(r.name, r.with(v));
                Due.is(Ask.written(r.name, r.with(v)) + " is BEYOND", got == BEYOND ? 1 : 0, 0);
            }
            for (int v : r.beyond()) {
                Made.rich(people, cells, wrongs, numbers).due(BEYOND, r.name, r.with(v));
            }
        }
    }

    private static void aNewObject() {
        Due.part("all as at first; five CELLS, no PEOPLE, WRONGS");
        Ask o = new Ask();
        int[] counts = {5, 0, 0, 0, 100, 0, 0, 0, 0, 0, 1};
        for (int what = 0; what < counts.length; what++) {
            o.due(counts[what], "count", what);
        }
        o.dueTold(0, 0, 0, 0, 0).due(NONE, "restore").due(0, "check").due(NONE, "trace", 0).due(-10, "text", 0);
        o.due(1, "image").due(0, "restore").due(1, "seed", 1);
        Due.part("nothing of one object is another one's");
        Made.full();
        Ask other = new Ask();
        for (int what = 0; what < counts.length; what++) {
            other.due(counts[what], "count", what);
        }
        other.due(4, "law", 0, 8, 0, 0).due(NONE, "ears", 0).dueTold(0, 1).due(1, "image");
    }

    private static void field() {
        Due.part("field: each with 20 EARS, LOW 1");
        Ask o = new Ask().make("lay", 0, 0, 7).make("lay", 4, 1, 7).due(5, "field", 5).due(100, "count", 4);
        o.due(1, "ofCell", 4, 1).due(5, "field", 10).make("lay", 9, 0, 999).make("lay", 9, 1, 9).due(10, "field", 2);
        o.due(40, "count", 4).due(BEYOND, "lay", 2, 0, 1).due(BEYOND, "lay", 9, 0, 1).due(2, "field", 10);
        o.due(200, "count", 4).due(20, "ofCell", 9, 0).due(1, "ofCell", 9, 1);
        Due.part("field: all else stays");
        o.make("dawns", 3).make("seed", 9).make("tell", 4).feed("w").due(10, "field", 3).due(3, "count", 3);
        o.due(9, "count", 10).due(1, "count", 8).due(1, "count", 7);
        Due.part("field: STATE, there are PEOPLE; BEYOND ahead of it");
        Ask one = new Ask().people(0);
        for (int n = 2; n <= 10; n++) {
            one.due(STATE, "field", n);
        }
        for (int n : new int[] {1, 11, 0, -1, MAX, MIN}) {
            one.due(BEYOND, "field", n);
        }
        one.due(5, "count", 0).dueTold(6, 0, 9, 0, 0);
    }

    private static void layOnlyThat() {
        Due.part("lay: of a CELL, and of no other one");
        for (int cell = 0; cell < 10; cell++) {
            Ask o = new Ask().make("field", 10).due(20, "lay", cell, 0, 999).due(1, "lay", cell, 1, 9);
            for (int c = 0; c < 10; c++) {
                o.due(c == cell ? 999 : 20, "ofCell", c, 0).due(c == cell ? 9 : 1, "ofCell", c, 1);
            }
        }
        Due.part("lay: v is held to the range of what is laid");
        new Ask().due(BEYOND, "lay", 0, 1, 20).due(20, "lay", 0, 0, 10).due(BEYOND, "lay", 0, 1, 10)
                .due(BEYOND, "lay", 0, 2, 5).due(BEYOND, "lay", 0, -1, 5).due(10, "ofCell", 0, 0)
                .due(1, "ofCell", 0, 1);
    }

    private static void person() {
        Due.part("person: FULL, BEYOND ahead of it");
        Ask o = new Ask().people(0, 0, 0, 0, 0).due(5, "person", 69, 4).due(FULL, "person", 69, 4);
        o.due(FULL, "person", 0, 0).due(BEYOND, "person", 70, 4).due(BEYOND, "person", -1, 4);
        o.due(BEYOND, "person", 0, 5).due(BEYOND, "person", 0, -1).due(6, "count", 1).dueTold(4, 0, 0, 2, 0);
    }

    private static void changeOnlyThat() {
        Due.part("change: of one, and of nobody else");
        for (int one = 0; one < 6; one++) {
            Ask o = new Ask().people(1, 12, 23, 34, 45, 56).due(0, "change", one, 0, 4).due(0, "change", one, 1, -1);
            o.due(0, "change", one, 2, 9999);
            for (int p = 0; p < 6; p++) {
                o.due(p, "ofPerson", p, 0).due(p + 1, "ofPerson", p, 1).due(p == one ? 4 : 0, "ofPerson", p, 2);
                o.due(p == one ? -1 : 0, "ofPerson", p, 3).due(p == one ? 9999 : 0, "ofPerson", p, 4);
            }
        }
        Due.part("change: v is held to the range of what is changed");
        new Ask().people(0).due(BEYOND, "change", 0, 0, -1).due(BEYOND, "change", 0, 0, 5)
                .due(BEYOND, "change", 0, 1, 4)
                .due(BEYOND, "change", 0, 2, -1).due(BEYOND, "change", 0, 3, 0).due(BEYOND, "change", 0, -1, 0);
    }

    private static void becomeOnlyThat() {
        Due.part("become: one alone, and all but KIND and m stay");
        Ask o = new Ask().people(1, 12).make("dawns", 2).make("change", 0, 0, 4).make("change", 0, 1, 1);
        o.make("change", 0, 2, 30).make("wrong", 0, 1, 20).due(0, "become", 0, 69).due(6, "become", 0, 0);
        o.due(0, "become", 0, 69).due(2, "ofPerson", 1, 1).due(1, "ofPerson", 1, 0);
        int[] first = {6, 9, 4, 1, 30, 2, 29, 9, 3};
        for (int what = 0; what < first.length; what++) {
            o.due(first[what], "ofPerson", 0, what);
        }
    }

    private static void as() {
        Due.part("as: KIND, one isn't of that KIND, nor of one under it");
        String[] of = {"0", "01", "02", "03", "014", "025", "036"};
        for (int kind = 0; kind <= 6; kind++) {
            for (int m = 0; m <= 9; m += 9) {
                Ask o = new Ask().people(10 * kind + m);
                for (int as = 0; as <= 6; as++) {
                    o.due(of[kind].indexOf('0' + as) >= 0 ? m : KIND, "as", 0, as);
                }
                Due.part("as: BEYOND ahead of KIND");
                o.due(BEYOND, "as", 0, 7).due(BEYOND, "as", 0, -1).due(BEYOND, "as", 1, 6).due(BEYOND, "as", -1, 6);
                o.dueTold(4, 0, 0, 0, 7 - of[kind].length());
            }
        }
    }

    private static void wrong() {
        Due.part("wrong: BEYOND, also to oneself; ahead of FULL");
        Ask o = new Ask().people(0, 0, 0, 0, 0, 0);
        for (int p = 0; p < 6; p++) {
            o.due(BEYOND, "wrong", p, p, 1);
        }
        o.due(0, "wrong", 0, 5, 20).due(1, "wrong", 5, 0, 1).makeTimes(6, "wrong", 1, 2, 2).due(FULL, "wrong", 1, 2, 2);
        o.due(BEYOND, "wrong", 3, 3, 2).due(BEYOND, "wrong", 6, 2, 2).due(BEYOND, "wrong", 1, 6, 2);
        o.due(BEYOND, "wrong", 1, 2, 0).due(BEYOND, "wrong", 1, 2, 21).due(8, "count", 2).dueTold(11, 0, 0, 1, 0);
        o.due(20, "ofPerson", 0, 6).due(1, "ofPerson", 5, 6).due(12, "ofPerson", 1, 6).due(0, "ofPerson", 2, 6);
        Due.part("wrong: one alone can't");
        new Ask().people(0).due(BEYOND, "wrong", 0, 0, 1).due(BEYOND, "wrong", 0, 1, 1).due(BEYOND, "wrong", 1, 0, 1);
    }

    private static void borrow() {
        Due.part("borrow: BEYOND, also one to whom it was done");
        for (int to = 0; to < 6; to++) {
            int by = (to + 1) % 6;
            Ask o = new Ask().people(0, 0, 0, 0, 0, 0).due(0, "wrong", by, to, 7).due(BEYOND, "borrow", 0, to);
            o.due(by, "ofWrong", 0, 0);
            int last = by;
            for (int p = 0; p < 6; p++) {
                if (p != to && p != last) {
                    o.due(last, "borrow", 0, p).due(p, "ofWrong", 0, 0).due(to, "ofWrong", 0, 1)
                            .due(7, "ofWrong", 0, 2);
                    o.due(7, "ofPerson", p, 6).due(0, "ofPerson", last, 6);
                    last = p;
                }
            }
            o.due(BEYOND, "borrow", 0, to).due(last, "ofWrong", 0, 0).due(BEYOND, "borrow", 0, 6);
            o.due(BEYOND, "borrow", 0, -1).due(BEYOND, "borrow", 1, last).due(BEYOND, "borrow", -1, last);
        }
        Due.part("borrow: the last of 8, and no other one");
        Ask o = new Ask().people(0, 0, 0).makeTimes(8, "wrong", 0, 1, 2).due(0, "borrow", 7, 2).due(2, "ofWrong", 7, 0);
        o.due(0, "ofWrong", 6, 0).due(14, "ofPerson", 0, 6).due(2, "ofPerson", 2, 6).due(BEYOND, "borrow", 8, 2);
    }

    private static void sheet() {
        Due.part("sheet: bits (8, 16, 32; 0)");
        for (int bits = -40; bits <= 70; bits++) {
            boolean right = bits == 0 || bits == 8 || bits == 16 || bits == 32;
            new Ask().due(right ? 1 : BEYOND, "sheet", 0, bits, 3).due(bits != 0 && right ? 1 : NONE, "put", 0, 2, 1);
        }
        Due.part("sheet: STATE, n is below 0; behind BEYOND of SHEET and bits, ahead of BEYOND of n");
        Ask o = new Ask();
        for (int n : new int[] {-1, -41, MIN}) {
            o.due(STATE, "sheet", 0, 8, n).due(STATE, "sheet", 3, 16, n).due(STATE, "sheet", 0, 32, n);
            o.due(BEYOND, "sheet", 4, 8, n).due(BEYOND, "sheet", -1, 8, n).due(BEYOND, "sheet", 0, 9, n);
            o.due(BEYOND, "sheet", 4, 9, n).due(BEYOND, "sheet", 4, 0, n).due(1, "sheet", 0, 0, n);
        }
        o.dueTold(15, 0, 9, 0, 0);
        Due.part("sheet: 0 bits, n doesn't matter");
        for (int n : new int[] {MIN, -1, 0, 1, 40, 41, MAX}) {
            new Ask().make("sheet", 1, 16, 4).due(1, "sheet", 1, 0, n).due(NONE, "ears", 1).due(1, "sheet", 1, 0, n);
        }
        Due.part("sheet: n numbers, all 0");
        for (int bits = 8; bits <= 32; bits *= 2) {
            Ask anew = new Ask().make("field", 10).numbers(0, bits, 1, 2, 3, 4, 5, 6, 7, 8, 9, 10).due(10, "ears", 0);
            anew.due(55, "count", 4).due(1, "sheet", 0, bits, 10).due(10, "ears", 0).due(0, "count", 4);
            anew.due(1, "sheet", 0, bits, 40).due(1, "put", 0, 39, 9).due(1, "sheet", 0, bits, 39);
            anew.due(BEYOND, "put", 0, 39, 9).due(1, "sheet", 0, bits, 40).due(10, "move", 0, 30, 0, 0, 10);
            anew.due(10, "ears", 0).due(0, "count", 4).due(BEYOND, "sheet", 0, bits, 41).due(1, "put", 0, 39, 9);
        }
    }

    /** What a number has become is seen by judge(), with a BAG as told. */
    private static void becomes(int bits, int v, int bag) {
        new Ask().people(0).make("change", 0, 2, bag).numbers(2, bits, v).due(-1, "judge", 2);
    }

    private static void becomesBelowNothing(int bits, int v) {
        new Ask().numbers(2, bits, v).due(0, "ears", 2);
    }

    private static void put() {
        Due.part("put: its lowest bits");
        int[][] kept = {{8, 0, 0}, {8, 127, 127}, {8, 256, 0}, {8, 257, 1}, {8, -256, 0}, {8, -255, 1},
            {8, 256 + 127, 127},
            {8, MIN, 0}, {8, 65536 + 5, 5}, {16, 127, 127}, {16, 128, 128}, {16, 255, 255}, {16, 256, 256},
            {16, 9999, 9999}, {16, 65536, 0}, {16, 65536 + 9999, 9999}, {16, -65536, 0}, {16, -65535, 1}, {16, MIN, 0},
            {32, 0, 0}, {32, 128, 128}, {32, 9999, 9999}};
        for (int[] k : kept) {
            becomes(k[0], k[1], k[2]);
        }
        int[][] below = {{8, 128}, {8, 255}, {8, -1}, {8, MAX}, {16, 32768}, {16, 65535}, {16, -1}, {16, MAX}, {32, -1},
            {32, MIN}};
        for (int[] b : below) {
            becomesBelowNothing(b[0], b[1]);
        }
        Due.part("put: number i, and no other one");
        for (int i = 0; i < 10; i++) {
            Ask o = new Ask().make("field", 10).make("sheet", 0, 8, 10).due(1, "put", 0, i, 7).due(10, "ears", 0);
            o.due(7, "count", 4).due(7, "ofCell", i, 0);
        }
        Due.part("put: BEYOND of the SHEET, NONE, BEYOND of the number");
        Ask o = new Ask().make("sheet", 1, 8, 2).due(BEYOND, "put", 4, 0, 1).due(BEYOND, "put", -1, 0, 1);
        o.due(BEYOND, "put", 4, -1, 1).due(NONE, "put", 0, 0, 1).due(NONE, "put", 0, -1, 1).due(NONE, "put", 0, 40, 1);
        o.due(BEYOND, "put", 1, 2, 1).due(BEYOND, "put", 1, -1, 1).due(1, "put", 1, 1, 1).dueTold(5, 3);
    }

    private static void move() {
        Due.part("move: BEYOND of SHEETS, NONE, KIND, BEYOND of numbers");
        Ask o = new Ask().make("sheet", 0, 8, 2).make("sheet", 1, 16, 2).due(BEYOND, "move", 4, -1, 2, 0, 1);
        o.due(BEYOND, "move", -1, 0, 1, 0, 1).due(BEYOND, "move", 0, 0, 4, 0, 1).due(BEYOND, "move", 2, 0, 4, 0, 1);
        o.due(BEYOND, "move", 0, 0, -1, 0, 1).due(NONE, "move", 2, 0, 0, 0, 1).due(NONE, "move", 0, 0, 2, 0, 1);
        o.due(NONE, "move", 2, -1, 3, 0, 1).due(NONE, "move", 0, 0, 2, 0, -1).due(KIND, "move", 0, 0, 1, 0, 1);
        o.due(KIND, "move", 1, 0, 0, 0, -1).due(KIND, "move", 0, 9, 1, 0, 1).due(KIND, "move", 0, 0, 1, 0, 0);
        o.due(BEYOND, "move", 0, 0, 0, 0, 3).due(0, "move", 0, 0, 0, 0, 0).dueTold(6, 4, 0, 0, 4);
        Due.part("move: n, i, or j is below 0, or they don't stand there");
        Ask rows = new Ask().make("sheet", 0, 32, 40).make("sheet", 3, 32, 3);
        long[][] within = {{0, 0, 3}, {37, 0, 3}, {39, 2, 1}, {40, 3, 0}, {0, 3, 0}, {40, 0, 0}, {38, 1, 2}};
        for (long[] w : within) {
            rows.due(w[2], "move", 0, w[0], 3, w[1], w[2]).due(w[2], "move", 3, w[1], 0, w[0], w[2]);
        }
        long[][] beyond = {{0, 0, 4}, {38, 0, 3}, {39, 0, 2}, {40, 0, 1}, {39, 3, 1}, {41, 0, 0}, {0, 4, 0}, {-1, 0, 1},
            {0, -1, 1}, {0, 0, -1}, {-1, 0, 0}, {0, -1, 0}, {MAX, 0, 1}, {0, MAX, 1}, {1, 1, MAX}, {MAX, MAX, MAX},
            {MIN, 0, 1}, {0, MIN, 1}, {0, 0, MIN}, {MIN, MIN, MIN}, {1, 1, MIN}, {MAX, 0, MIN}};
        for (long[] b : beyond) {
            rows.due(BEYOND, "move", 0, b[0], 3, b[1], b[2]).due(BEYOND, "move", 3, b[1], 0, b[0], b[2]);
        }
        Due.part("move: a SHEET without numbers");
        Ask none = new Ask().make("sheet", 0, 8, 0).make("sheet", 1, 8, 2).due(0, "move", 0, 0, 1, 2, 0);
        none.due(0, "move", 1, 0, 0, 0, 0).due(BEYOND, "move", 1, 0, 0, 0, 1).due(BEYOND, "move", 0, 0, 1, 0, 1);
    }

    private static void moveAsTheyWere() {
        Due.part("move: as they all were, onto the same SHEET");
        for (int from = 0; from <= 6; from++) {
            for (int onto = 0; onto <= 6; onto++) {
                for (int n = 0; n <= 6 - Math.max(from, onto); n++) {
                    Ask o = new Ask().make("field", 6).numbers(2, 16, 1, 2, 3, 4, 5, 6)
                            .due(n, "move", 2, from, 2, onto, n);
                    int[] row = {1, 2, 3, 4, 5, 6};
                    for (int i = 0; i < n; i++) {
                        row[onto + i] = 1 + from + i;
                    }
                    o.due(6, "ears", 2).dueEars(row);
                }
            }
        }
        Due.part("move: to another one, and the first one stays");
        for (int bits = 8; bits <= 32; bits *= 2) {
            Ask o = new Ask().numbers(0, bits, 1, 2, 3).numbers(3, bits, 7, 8, 9, 10).due(2, "move", 0, 1, 3, 2, 2);
            o.due(4, "ears", 3).dueEars(7, 8, 2, 3, 20).due(3, "ears", 0).dueEars(1, 2, 3, 3, 20);
        }
    }

    private static void ears() {
        Due.part("ears: up to the first that is not 0 to 999 (no ERROR then)");
        for (int stop = 0; stop < 5; stop++) {
            for (int bad : new int[] {-1, 1000, MAX, MIN}) {
                int[] row = {0, 999, 1, 998, 500};
                row[stop] = bad;
                Ask o = new Ask().numbers(1, 32, row).due(stop, "ears", 1);
                for (int c = 0; c < 5; c++) {
                    o.due(c < stop ? row[c] : 20, "ofCell", c, 0).due(1, "ofCell", c, 1);
                }
                o.dueTold(0, 0, 0, 0, 0);
            }
        }
        Due.part("ears: or for which there is no CELL");
        for (int cells = 2; cells <= 10; cells += 4) {
            Ask o = new Ask().make("field", cells).make("sheet", 0, 8, cells - 1).due(cells - 1, "ears", 0);
            o.due(20, "count", 4).make("sheet", 0, 8, cells).due(cells, "ears", 0).due(0, "count", 4);
            o.make("sheet", 0, 8, cells + 1).make("put", 0, cells, -1).due(cells, "ears", 0);
            o.make("sheet", 0, 8, 40).due(cells, "ears", 0).dueTold(0, 0, 0, 0, 0);
        }
        Due.part("ears: no numbers");
        new Ask().make("sheet", 0, 16, 0).due(0, "ears", 0).due(100, "count", 4);
        Due.part("ears: BEYOND, NONE");
        new Ask().due(BEYOND, "ears", 4).due(BEYOND, "ears", -1).due(NONE, "ears", 0).due(NONE, "ears", 3)
                .dueTold(2, 2);
    }

    private static void judge() {
        Due.part("judge: the first that isn't so; -1: all are");
        int[] bags = {0, 9999, 1, 127, 128, 300};
        for (int people = 0; people <= 6; people++) {
            Ask o = new Ask();
            int[] row = new int[people];
            for (int p = 0; p < people; p++) {
                o.people(0).make("change", p, 2, bags[p]);
                row[p] = bags[p];
            }
            o.numbers(0, 16, row).numbers(3, 32, row).due(-1, "judge", 0).due(-1, "judge", 3);
            for (int p = people - 1; p >= 0; p--) {
                o.make("put", 0, p, bags[p] + 1).due(p, "judge", 0).make("put", 3, p, bags[p] - 1).due(p, "judge", 3);
            }
            Due.part("judge: one that lacks, or is too many, too");
            for (int n = 0; n <= 8; n++) {
                o.make("sheet", 1, 16, n);
                for (int i = 0; i < n; i++) {
                    o.make("put", 1, i, i < people ? bags[i] : 0);
                }
                o.due(n == people ? -1 : Math.min(n, people), "judge", 1);
            }
            o.dueTold(0, 0, 0, 0, 0);
        }
        Due.part("judge: BEYOND, NONE");
        new Ask().due(BEYOND, "judge", 4).due(BEYOND, "judge", -1).due(NONE, "judge", 0).due(NONE, "judge", 3)
                .dueTold(2, 2);
    }

    private static void image() {
        Due.part("image: how often that was done");
        Ask o = new Ask();
        for (int i = 1; i <= 100; i++) {
            o.due(i, "image").due(0, "restore");
        }
        o.due(101, "image");
        Due.part("image: in place of one ahead");
        Ask two = new Ask().make("image").make("dawns", 1).make("image").make("dawns", 1).due(1, "restore");
        two.due(1, "count", 3).due(1, "restore").due(3, "image");
    }

    /** What is done behind an IMAGE, of which restore() takes back everything. */
    private static void disturb(Ask o) {
        o.make("dawns", 5).make("loose", 2).make("check").make("seed", 3);
        for (int p = 0; p < 6; p++) {
            o.make("become", p, 69 - 10 * p).make("change", p, 0, 0).make("change", p, 1, 0).make("change", p, 2, 1);
        }
        for (int c = 0; c < 6; c++) {
            o.make("lay", c, 0, 900 + c).make("lay", c, 1, 9 - c);
        }
        for (int w = 7; w >= 0; w--) {
            o.make("forgive", w);
        }
        o.make("wrong", 5, 4, 20).call("text", 0);
        o.text(1, 0, "1").text(1, 1, "2").feed("3").makeTimes(4, "tell", 9);
    }

    private static void imageStays() {
        Due.part("restore: all is as the IMAGE has it, which stays");
        Ask o = Made.rich(6, 6, 8, 3).make("image");
        int[][] was = rows(o);
        disturb(o);
        o.due(2, "restore");
        int[][] is = rows(o);
        for (int i = 0; i < is.length; i++) {
            for (int j = 0; j < is[i].length; j++) {
                Due.is("row " + i + ", number " + j + " restored", is[i][j], was[i][j]);
            }
        }
        Due.part("restore: THE TAPE and the numbers that wait are there again");
        o.due(6, "count", 7).due(3, "count", 8).due(1, "check").due(0, "check").due(2, "restore").due(3, "count", 8);
        o.due(1, "check").due(1, "text", 0).due(4, "law", 0, 15, 0, 0).due(2, "restore").due(6, "count", 7);
    }

    private static int[][] rows(Ask o) {
        int[][] rows = new int[6 + 6 + 8 + 2][9];
        for (int p = 0; p < 6; p++) {
            for (int what = 0; what <= 8; what++) {
                rows[p][what] = o.call("ofPerson", p, what);
            }
        }
        for (int i = 0; i < 8; i++) {
            for (int what = 0; what <= 2; what++) {
                if (i < 6) {
                    rows[6 + i][what] = o.call("ofCell", i, what);
                }
                rows[12 + i][what] = o.call("ofWrong", i, what);
            }
        }
        for (int what = 0; what <= 8; what++) {
            rows[20][what] = o.call("count", what == 0 ? 10 : what);
        }
        for (int use = 0; use <= 1; use++) {
            rows[21][use] = o.call("law", use, 13, 2, 1);
        }
        return rows;
    }

    private static void restore() {
        Due.part("restore: NONE, there is none");
        new Ask().due(NONE, "restore").make("dawns", 1).due(NONE, "restore").due(1, "count", 3).dueTold(0, 2);
        Due.part("restore: to nobody, and from nobody");
        Ask o = new Ask().make("image").people(0, 0).make("wrong", 0, 1, 20).due(0, "restore").due(0, "count", 1);
        o.due(0, "count", 2).due(BEYOND, "ofPerson", 0, 0).due(BEYOND, "ofWrong", 0, 0).due(5, "field", 2);
        o.due(0, "restore").due(5, "count", 0);
        Due.part("restore: one who comes then is as at first");
        o.people(0).make("change", 0, 1, 1).make("change", 0, 2, 1).make("dawns", 2).due(0, "restore").people(10);
        o.due(0, "ofPerson", 0, 3).due(0, "ofPerson", 0, 4).due(0, "ofPerson", 0, 5);
        Due.part("restore: without a TEXT, as it was");
        Ask law = new Ask().make("image").text(1, 0, "w").text(1, 1, "e").due(0, "restore").due(3, "law", 0, 7, 0, 0);
        law.due(8, "law", 1, 7, 0, 0);
        Due.part("restore: full again");
        Ask full = Made.full().make("image").make("forgive", 0).make("check");
        full.call("text", 0);
        full.make("restore").due(FULL, "wrong", 0, 1, 1).due(FULL, "tell", 0).due(FULL, "feed", 0, 1);
        full.due(FULL, "person", 0, 0).due(50, "count", 7).due(20, "count", 8).due(8, "count", 2);
        Due.part("restore: not SHEETS, THE TRACE, what told() tells, how often");
        Ask but = new Ask().people(30).numbers(0, 8, 1).make("voice", 0, 0, 1).due(BEYOND, "field", 0).make("image");
        but.numbers(0, 16, 300, 2).make("sheet", 1, 8, 0).make("voice", 0, 2, 1).due(BEYOND, "field", 0);
        but.due(0, "restore").due(2, "ears", 0).dueEars(300, 2).due(0, "ears", 1).due(2, "count", 9);
        but.due(40, "trace", 0).due(2, "told", 1).due(2, "image");
        Due.part("restore: DAWN at its last");
        Ask late = new Ask().comeLate().make("dawns", 39).make("image").due(STATE, "dawns", 1).due(9999, "restore");
        late.due(STATE, "dawns", 1);
    }

    private static void tell() {
        Due.part("tell: FULL, 20 wait");
        Ask o = new Ask();
        for (int i = 1; i <= 20; i++) {
            o.due(i, "tell", i % 2 == 0 ? MIN : MAX).due(i, "count", 8);
        }
        o.due(FULL, "tell", 0).due(FULL, "tell", MIN).due(20, "count", 8).due(1, "check").due(0, "count", 8);
        o.due(1, "tell", 0).dueTold(0, 0, 0, 2, 0);
    }

    private static void check() {
        Due.part("check: none wait");
        new Ask().due(0, "check").people(0).due(0, "check").due(0, "count", 3);
        Due.part("check: 1 and the place of the first that isn't so");
        for (int n = 1; n <= 20; n++) {
            for (int off = 0; off <= n; off += n < 4 || n == 20 ? 1 : n) {
                Ask o = new Ask().people(10, 10).make("change", 0, 2, 100).make("change", 1, 2, 7).make("lay", 0, 0, 0);
                for (int i = 1; i <= n; i++) {
                    int bags = 100 - i + Math.max(0, 7 - i);
                    o.due(i, "tell", i - 1 >= off ? bags + 1 : bags);
                }
                o.due(off < n ? 1 + off : 0, "check").due(0, "count", 8).due(0, "check").due(107, "count", 5);
            }
        }
        Due.part("check: nobody is there");
        Ask nobody = new Ask().makeTimes(20, "tell", 0).due(0, "check").make("tell", 1).due(1, "check");
        nobody.make("tell", 0).make("tell", MIN).due(2, "check").due(0, "count", 3).dueTold(0, 0, 0, 0, 0);
    }

    private static void checkLate() {
        Due.part("check: behind the last DAWN");
        Ask o = new Ask().people(0).comeLate().make("dawns", 39).text(1, 0, "d>9999").text(1, 1, "5").make("tell", 0);
        o.make("tell", 3).make("tell", 6).due(0, "check").due(9999, "count", 3).due(0, "count", 5);
    }

    private static void count() {
        Due.part("count: 0 to 10");
        Ask o = Made.full();
        int[] counts = {6, 6, 8, 2};
        for (int what = 0; what < counts.length; what++) {
            o.due(counts[what], "count", what);
        }
        o.due(50, "count", 7).due(20, "count", 8).due(4, "count", 9).due(99, "count", 10);
        for (int what : new int[] {-1, 11, MAX, MIN}) {
            o.due(BEYOND, "count", what);
        }
        o.due(4, "told", 1);
        Due.part("count: z like an ERROR is none");
        new Ask().make("seed", 0).due(0, "seed", BEYOND).due(BEYOND, "count", 10).dueTold(0, 0, 0, 0, 0);
    }

    private static void told() {
        Due.part("told: k 1 .. 5; BEYOND another k (counted, too)");
        Ask o = new Ask();
        int beyond = 0;
        for (int k : new int[] {0, 6, -1, 7, MAX, MIN}) {
            o.due(BEYOND, "told", k);
            beyond++;
            o.dueTold(beyond, 0, 0, 0, 0);
        }
        Due.part("told: each ERROR by its own");
        Ask each = new Ask().people(0).dueTold(0, 0, 0, 0, 0).due(KIND, "as", 0, 1).dueTold(0, 0, 0, 0, 1);
        each.due(STATE, "field", 2).dueTold(0, 0, 1, 0, 1).due(NONE, "restore").dueTold(0, 1, 1, 0, 1);
        each.makeTimes(20, "tell", 1).due(FULL, "tell", 1).dueTold(0, 1, 1, 1, 1).due(BEYOND, "field", 1);
        each.dueTold(1, 1, 1, 1, 1);
        Due.part("told: as often as there are calls");
        Ask all = new Ask();
        for (int i = 0; i < 511; i++) {
            all.due(BEYOND, "count", 11);
        }
        all.due(511, "told", 1);
        Due.part("told: answers that look like ERRORS are none");
        Ask like = new Ask().people(0).due(BEYOND, "voice", 0, 0, BEYOND).due(KIND, "voice", 0, 0, KIND)
                .make("seed", NONE);
        like.dueTold(0, 0, 0, 0, 0);
    }
}
