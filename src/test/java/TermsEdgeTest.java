/** The boundary cases that 'Terms' names, sentence by sentence: the ERRORS, and points 1, 3 and 4. */
public final class TermsEdgeTest {
    private static final int BEYOND = Ask.BEYOND;
    private static final int NONE = Ask.NONE;
    private static final int STATE = Ask.STATE;
    private static final int FULL = Ask.FULL;
    private static final int MAX = Ask.MAX;
    private static final int MIN = Ask.MIN;

    private TermsEdgeTest() {
    }

    public static void main(String[] args) {
        errors();
        cells();
        earsAndLow();
        dawn();
        people();
        kindsAndNumbers();
        wayAndBag();
        hungry();
        wrongs();
        wrongsGoDown();
        weighs();
        bends();
        eats();
        picksByBending();
        picksWhatThereIs();
        picksIntoTheBag();
        picksByNumbers();
        goesOn();
        goesOnBehindAllPicking();
        eatsFromTheBag();
        sheets();
        trace();
        Due.end();
    }

    private static void errors() {
        Due.part("ERRORS are answers below LOW");
        new Ask().due(-1000000001, "field", 1);
        new Ask().due(-1000000002, "restore");
        new Ask().people(0).due(-1000000003, "field", 5);
        new Ask().makeTimes(20, "tell", 0).due(-1000000004, "tell", 0);
        new Ask().people(0).due(-1000000005, "as", 0, 1);
    }

    private static void cells() {
        Due.part("CELLS 0 .. n - 1 (n 2 to 10; 5 at first)");
        new Ask().due(5, "count", 0).due(20, "ofCell", 4, 0).due(BEYOND, "ofCell", 5, 0).due(BEYOND, "ofCell", -1, 0);
        for (int n = 2; n <= 10; n++) {
            Ask o = new Ask().due(5, "field", n).due(n, "count", 0).due(20 * n, "count", 4);
            o.due(20, "ofCell", n - 1, 0).due(1, "ofCell", n - 1, 1).due(BEYOND, "ofCell", n, 0);
            o.due(BEYOND, "person", 0, n).due(0, "person", 0, n - 1);
        }
        new Ask().due(BEYOND, "field", 1).due(5, "count", 0);
        new Ask().due(BEYOND, "field", 11).due(5, "count", 0);
    }

    private static void earsAndLow() {
        Due.part("EARS (0 to 999; 20 at first), LOW (0 to 9; 1 at first)");
        for (int cell = 0; cell < 5; cell++) {
            Ask o = new Ask().due(20, "lay", cell, 0, 0).due(0, "lay", cell, 0, 999).due(BEYOND, "lay", cell, 0, 1000);
            o.due(BEYOND, "lay", cell, 0, -1).due(999, "ofCell", cell, 0).due(80 + 999, "count", 4);
            o.due(1, "lay", cell, 1, 0).due(0, "lay", cell, 1, 9).due(BEYOND, "lay", cell, 1, 10);
            o.due(BEYOND, "lay", cell, 1, -1).due(9, "ofCell", cell, 1);
        }
        Due.part("EARS of ten CELLS, all full");
        Ask o = new Ask().make("field", 10);
        for (int cell = 0; cell < 10; cell++) {
            o.due(20, "lay", cell, 0, 999);
        }
        o.due(9990, "count", 4);
    }

    private static void dawn() {
        Due.part("DAWN (0 to 9999; 0 at first)");
        new Ask().due(0, "count", 3).comeLate().due(9960, "count", 3).due(0, "dawns", 39).due(9999, "count", 3)
                .due(STATE, "dawns", 1).due(STATE, "loose", 1).due(9999, "count", 3);
        Due.part("DAWN 0 is seen by the TEXT, and 9998 last");
        Ask first = new Ask().people(0).text(1, 0, "!d").text(1, 1, "7");
        first.due(5, "dawns", 1).due(3, "dawns", 1);
        Ask last = new Ask().people(0).comeLate().make("dawns", 38).text(1, 0, "d=9998").text(1, 1, "7");
        last.due(1, "ofPerson", 0, 7).due(5, "dawns", 1).due(0, "ofPerson", 0, 7).due(9999, "count", 3);
        Due.part("DAWN beyond 9999, in thoughts alone");
        last.text(1, 0, "d>9999").due(3, "then", 1, 0, 0).due(8, "then", 2, 0, 0).due(9999, "count", 3);
        last.text(1, 0, "d=9999+59").due(0, "then", 59, 0, 0).due(5, "then", 60, 0, 0).due(0, "ofPerson", 0, 7);
    }

    private static void people() {
        Due.part("PEOPLE 0, 1, .. (at most 6)");
        Ask o = new Ask().due(0, "count", 1);
        for (int p = 0; p < 6; p++) {
            o.due(BEYOND, "ofPerson", p, 0).due(p, "person", 10 * p + p, p % 5).due(p, "ofPerson", p, 0);
            o.due(p + 1, "count", 1);
        }
        o.due(FULL, "person", 0, 0).due(6, "count", 1).due(BEYOND, "ofPerson", 6, 0);
        Due.part("who is AT a CELL, as a set: nobody, and all six");
        Ask all = new Ask().due(0, "ofCell", 0, 2).people(0, 0, 0, 0, 0, 0).due(63, "ofCell", 0, 2);
        all.due(0, "ofCell", 1, 2).due(0, "change", 5, 0, 4).due(31, "ofCell", 0, 2).due(32, "ofCell", 4, 2);
    }

    private static void kindsAndNumbers() {
        Due.part("KINDS 0 to 6, m 0 to 9");
        for (int km = 0; km <= 69; km++) {
            Ask o = new Ask().due(0, "person", km, 4).due(km / 10, "ofPerson", 0, 0).due(km % 10, "ofPerson", 0, 1);
            o.due(4, "ofPerson", 0, 2).due(0, "ofPerson", 0, 3).due(0, "ofPerson", 0, 4).due(0, "ofPerson", 0, 5);
            o.due(km / 10, "become", 0, 69 - km).due((69 - km) / 10, "ofPerson", 0, 0);
            o.due((69 - km) % 10, "ofPerson", 0, 1);
        }
        for (int km : new int[] {-1, -9, -10, 70, 79, 99, MAX, MIN}) {
            new Ask().due(BEYOND, "person", km, 0).due(0, "count", 1);
            new Ask().people(35).due(BEYOND, "become", 0, km).due(3, "ofPerson", 0, 0).due(5, "ofPerson", 0, 1);
        }
    }

    private static void wayAndBag() {
        Due.part("a WAY (-1, 0, 1; 0 at first)");
        Ask o = new Ask().people(0).due(0, "ofPerson", 0, 3).due(0, "change", 0, 1, -1).due(-1, "change", 0, 1, 0);
        o.due(0, "change", 0, 1, 1).due(BEYOND, "change", 0, 1, 2).due(BEYOND, "change", 0, 1, -2);
        o.due(1, "ofPerson", 0, 3);
        Due.part("a BAG (0 to 9999; 0 at first)");
        Ask b = new Ask().people(0).due(0, "ofPerson", 0, 4).due(0, "change", 0, 2, 9999);
        b.due(BEYOND, "change", 0, 2, 10000).due(BEYOND, "change", 0, 2, -1).due(9999, "ofPerson", 0, 4)
                .due(9999, "change", 0, 2, 0);
        b.due(0, "ofPerson", 0, 4);
        Due.part("all BAGS full");
        Ask all = new Ask().people(0, 0, 0, 0, 0, 0);
        for (int p = 0; p < 6; p++) {
            all.make("change", p, 2, 9999);
        }
        all.due(59994, "count", 5).due(59994 - 12, "dawns", 1);
    }

    private static void hungry() {
        Due.part("HUNGRY (dawns, 0 to 9999; 0 at first)");
        Ask o = new Ask().people(0, 10, 20, 30, 40, 50).make("lay", 0, 0, 0).due(0, "count", 6).comeLate();
        o.due(6 * 9960, "count", 6);
        o.due(0, "dawns", 38).due(9998, "ofPerson", 5, 5).due(9999, "then", 1, 5, 1).due(9999, "then", 2, 5, 1);
        o.due(0, "dawns", 1).due(6 * 9999, "count", 6);
        for (int p = 0; p < 6; p++) {
            o.due(9999, "ofPerson", p, 5).due(9999, "then", 0, p, 1).due(9999, "then", 1, p, 1);
            o.due(9999, "then", 60, p, 1);
        }
    }

    private static void wrongs() {
        Due.part("WRONGS 0 .. (at most 8 at a time), WEIGHT (1 to 20)");
        Ask o = new Ask().people(0, 0).due(0, "count", 2);
        for (int w = 0; w < 8; w++) {
            o.due(BEYOND, "ofWrong", w, 0).due(w, "wrong", 1, 0, w == 0 ? 1 : 20).due(1, "ofWrong", w, 0);
            o.due(0, "ofWrong", w, 1).due(w == 0 ? 1 : 20, "ofWrong", w, 2).due(w + 1, "count", 2);
        }
        o.due(FULL, "wrong", 1, 0, 1).due(8, "count", 2).due(BEYOND, "ofWrong", 8, 0);
        o.due(7, "forgive", 7).due(7, "wrong", 0, 1, 3).due(FULL, "wrong", 0, 1, 3);
        o.due(7, "forgive", 0).due(7, "wrong", 0, 1, 4).due(FULL, "wrong", 0, 1, 3).due(8, "count", 2);
        Ask weights = new Ask().people(0, 0).due(BEYOND, "wrong", 0, 1, 0).due(BEYOND, "wrong", 0, 1, 21);
        weights.due(BEYOND, "wrong", 0, 1, -1).due(BEYOND, "wrong", 0, 1, MAX).due(BEYOND, "wrong", 0, 1, MIN);
        weights.due(0, "count", 2);
    }

    private static void wrongsGoDown() {
        Due.part("when one is gone, those with greater numbers go one down");
        for (int gone = 0; gone < 8; gone++) {
            Ask o = new Ask().people(0, 0, 0);
            for (int w = 0; w < 8; w++) {
                o.due(w, "wrong", w % 3, (w + 1) % 3, w + 1);
            }
            o.due(7, "forgive", gone).due(7, "count", 2).due(BEYOND, "ofWrong", 7, 2).due(BEYOND, "forgive", 7);
            for (int w = 0; w < 7; w++) {
                int was = w < gone ? w : w + 1;
                o.due(was % 3, "ofWrong", w, 0).due((was + 1) % 3, "ofWrong", w, 1).due(was + 1, "ofWrong", w, 2);
            }
        }
        Due.part("the only one is gone");
        Ask one = new Ask().people(0, 0).due(0, "wrong", 0, 1, 9).due(BEYOND, "forgive", 1).due(0, "forgive", 0);
        one.due(BEYOND, "forgive", 0).due(0, "ofPerson", 0, 6).due(BEYOND, "ofWrong", 0, 0).due(0, "wrong", 1, 0, 2);
    }

    private static void weighs() {
        Due.part("WEIGHS: none, and all there can be; PROFESSIONAL: and m more");
        for (int kind = 0; kind <= 6; kind++) {
            for (int m = 0; m <= 9; m += 9) {
                int past = kind == 6 ? m : 0;
                Ask o = new Ask().people(10 * kind + m, 69).due(past, "ofPerson", 0, 6).due(9, "ofPerson", 1, 6);
                for (int w = 0; w < 8; w++) {
                    o.make("wrong", 0, 1, 20).due(20 * (w + 1) + past, "ofPerson", 0, 6);
                }
                o.due(9, "ofPerson", 1, 6);
            }
        }
    }

    private static void bends() {
        Due.part("BENDS, by KINDS");
        for (int v : new int[] {0, 1, 2, 8, 9}) {
            for (int kind = 0; kind <= 6; kind++) {
                Ask o = new Ask().people(0, 0).text(1, 0, "" + v);
                for (int m = 0; m <= 9; m++) {
                    o.make("become", 0, 10 * kind + m).make("change", 1, 0, 1);
                    o.due(bent(kind, m, v, false), "ofPerson", 0, 7);
                    o.make("change", 1, 0, 0).due(bent(kind, m, v, true), "ofPerson", 0, 7);
                }
            }
        }
    }

    private static int bent(int kind, int m, int v, boolean inCompany) {
        int sister = inCompany && v > 0 ? v - 1 : v;
        int sinner = v + new int[] {0, 1, 2, 0, 1, 2, 0, 1, 2, 0}[m];
        int overseer = new int[] {0, 0, 1, 1, 2, 2, 3, 3, 4, 4}[m];
        return new int[] {v, sister, 0, sinner, sister + 1, overseer, sinner}[kind];
    }

    private static void eats() {
        Due.part("EATS, by KINDS");
        for (int kind = 0; kind <= 6; kind++) {
            Ask o = new Ask().people(0);
            for (int m = 0; m <= 9; m++) {
                int due = new int[] {2, 1, 2, 2, 1, 3, m % 2 == 0 ? 2 : 3}[kind];
                o.make("become", 0, 10 * kind + m).due(due, "ofPerson", 0, 8);
            }
        }
    }

    private static void picksByBending() {
        Due.part("if one BENDS as LOW as EARS lie, or lower");
        for (int low = 0; low <= 9; low++) {
            for (int bends = 0; bends <= 9; bends++) {
                Ask o = new Ask().people(0).text(1, 0, "" + bends).text(1, 1, "5").make("lay", 0, 1, low);
                o.due(bends >= low ? 3 : 0, "dawns", 1).due(bends >= low ? 15 : 20, "ofCell", 0, 0);
                o.due(bends >= low ? 0 : 1, "ofPerson", 0, 5);
            }
        }
        Due.part("EARS that lie 0 are picked upright, too");
        Ask curate = new Ask().people(29).make("lay", 0, 1, 0).due(0, "ofPerson", 0, 7);
        curate.due(0, "dawns", 1).due(19, "ofCell", 0, 0).due(1, "ofPerson", 0, 5);
        Due.part("one may BEND lower than 9");
        Ask lovers = new Ask().people(35).text(1, 0, "99").text(1, 1, "b").make("lay", 0, 1, 9);
        lovers.due(11, "ofPerson", 0, 7).due(11 - 2, "dawns", 1);
    }

    private static void picksWhatThereIs() {
        Due.part("as many as there are, at most");
        int[][] rows = {{0, 0, 0}, {0, 1, 0}, {0, 2, 0}, {5, 0, 0}, {5, 4, 4}, {5, 5, 5}, {5, 6, 5}, {1, 99, 1},
            {98, 99, 98}, {99, 99, 99}, {100, 99, 99}, {999, 99, 99}, {999, 100, 99}, {999, 9999, 99}, {1, 1, 1}};
        for (int[] r : rows) {
            Ask o = new Ask().people(0).text(1, 0, "9").text(1, 1, "" + r[1]).make("lay", 0, 0, r[0]);
            o.due(Math.max(0, r[2] - 2), "dawns", 1).due(r[0] - r[2], "ofCell", 0, 0);
            o.due(r[2] < 2 ? 1 : 0, "ofPerson", 0, 5);
        }
        Due.part("a TEXT below 0 picks nothing");
        new Ask().people(0).text(1, 0, "9").text(1, 1, "0-5").due(0, "dawns", 1).due(20, "ofCell", 0, 0);
    }

    private static void picksIntoTheBag() {
        Due.part("into the BAG, held");
        int[][] rows = {{9900, 9999}, {9901, 9999}, {9899, 9998}, {9999, 9999}, {9998, 9999}, {0, 99}};
        for (int[] r : rows) {
            Ask o = new Ask().people(10).text(1, 0, "9").text(1, 1, "99").make("lay", 0, 0, 999);
            o.make("change", 0, 2, r[0]).due(r[1] - 1, "then", 1, 0, 0).due(r[1] - 1, "dawns", 1);
            o.due(r[1] - 1, "ofPerson", 0, 4).due(900, "ofCell", 0, 0).due(0, "ofPerson", 0, 5);
        }
    }

    private static void picksByNumbers() {
        Due.part("each by numbers: what those ahead leave");
        Ask o = new Ask().people(10, 10, 10).text(1, 0, "9").text(1, 1, "8").due(8 + 8 + 4 - 3, "dawns", 1);
        o.due(7, "ofPerson", 0, 4).due(7, "ofPerson", 1, 4).due(3, "ofPerson", 2, 4).due(0, "ofCell", 0, 0);
        Due.part("the other TEXT is told the EARS that are left");
        Ask left = new Ask().people(0, 0, 0).text(1, 0, "9").text(1, 1, "e/2").due(10 + 5 + 2 - 6, "dawns", 1);
        left.due(8, "ofPerson", 0, 4).due(3, "ofPerson", 1, 4).due(0, "ofPerson", 2, 4).due(3, "ofCell", 0, 0);
    }

    private static void goesOn() {
        Due.part("goes on by WAY, if there is a CELL; else WAY is the other one from then on");
        for (int cells = 2; cells <= 10; cells += 8) {
            Ask o = new Ask().make("field", cells).make("person", 20, 0).make("change", 0, 1, -1);
            o.make("dawns", 1).due(0, "ofPerson", 0, 2).due(1, "ofPerson", 0, 3);
            for (int at = 1; at < cells; at++) {
                o.make("dawns", 1).due(at, "ofPerson", 0, 2).due(1, "ofPerson", 0, 3);
            }
            o.make("dawns", 1).due(cells - 1, "ofPerson", 0, 2).due(-1, "ofPerson", 0, 3);
            for (int at = cells - 2; at >= 0; at--) {
                o.make("dawns", 1).due(at, "ofPerson", 0, 2).due(-1, "ofPerson", 0, 3);
            }
            o.make("dawns", 1).due(0, "ofPerson", 0, 2).due(1, "ofPerson", 0, 3);
        }
        Due.part("WAY 0 stays, at both ends");
        Ask still = new Ask().people(20, 20).make("change", 1, 0, 4).make("dawns", 60);
        still.due(0, "ofPerson", 0, 2).due(0, "ofPerson", 0, 3).due(4, "ofPerson", 1, 2).due(0, "ofPerson", 1, 3);
    }

    /** Were one to walk on before the next one picks, the SISTER would have company, or lose it. */
    private static void goesOnBehindAllPicking() {
        Due.part("all pick, then all go on");
        Ask comes = new Ask().people(20).make("person", 10, 1).make("change", 0, 1, 1).text(1, 0, "1").text(1, 1, "5");
        comes.due(4, "dawns", 1).due(0, "ofPerson", 1, 7);
        Ask leaves = new Ask().people(20, 10).make("change", 0, 1, 1).text(1, 0, "1").text(1, 1, "5");
        leaves.due(0, "dawns", 1).due(20, "ofCell", 0, 0).due(1, "ofPerson", 1, 7).due(4, "dawns", 1);
    }

    private static void eatsFromTheBag() {
        Due.part("who hasn't as many, eats all there is, and is HUNGRY one more");
        int[][] kmEats = {{10, 1}, {0, 2}, {50, 3}, {68, 2}, {61, 3}};
        for (int[] k : kmEats) {
            for (int bag = 0; bag <= 4; bag++) {
                Ask o = new Ask().people(k[0]).make("lay", 0, 0, 0).make("change", 0, 2, bag);
                o.due(Math.max(0, bag - k[1]), "dawns", 1).due(bag < k[1] ? 1 : 0, "ofPerson", 0, 5);
            }
        }
        Due.part("DAWN is 1 more, nobody being there, too");
        new Ask().due(0, "dawns", 1).due(1, "count", 3).due(0, "dawns", 60).due(61, "count", 3).due(100, "count", 4);
    }

    private static void sheets() {
        Due.part("SHEETS 0 .. 3 are missing as at first");
        Ask o = new Ask().people(0);
        for (int s = 0; s <= 3; s++) {
            o.due(NONE, "ears", s).due(NONE, "judge", s).due(NONE, "put", s, 0, 0).due(NONE, "brings", s, 0, 0);
            o.due(NONE, "move", s, 0, s, 0, 0);
        }
        for (int s : new int[] {-1, 4, MAX, MIN}) {
            o.due(BEYOND, "ears", s).due(BEYOND, "judge", s).due(BEYOND, "put", s, 0, 0).due(BEYOND, "brings", s, 0, 0);
            o.due(BEYOND, "move", s, 0, 0, 0, 0).due(BEYOND, "move", 0, 0, s, 0, 0).due(BEYOND, "sheet", s, 8, 0);
        }
        Due.part("rows of 8, 16, 32 bits, at most 40 numbers");
        for (int bits = 8; bits <= 32; bits *= 2) {
            for (int s = 0; s <= 3; s++) {
                Ask all = new Ask().due(1, "sheet", s, bits, 40).due(1, "put", s, 0, 1).due(1, "put", s, 39, 1);
                all.due(BEYOND, "put", s, 40, 1).due(BEYOND, "put", s, -1, 1).due(BEYOND, "sheet", s, bits, 41);
                all.due(40, "move", s, 0, s, 0, 40).due(1, "sheet", s, bits, 0).due(BEYOND, "put", s, 0, 1);
            }
        }
    }

    /** No voice() has more than nine BODIES, so the limit of 40 can't be come to; this is the longest one. */
    private static void trace() {
        Due.part("THE TRACE, empty and at its longest");
        Ask o = new Ask().people(65).due(0, "count", 9).due(NONE, "trace", 0).make("voice", 0, 3, 1).due(9, "count", 9);
        int[] bodies = {71, 11, 10, 13, 11, 10, 70, 40, 12};
        for (int i = 0; i < bodies.length; i++) {
            o.due(bodies[i], "trace", i);
        }
        o.due(NONE, "trace", 9).due(NONE, "trace", -1).due(NONE, "trace", 39).due(NONE, "trace", 40);
        Due.part("THE TRACE of the latest voice() alone");
        o.make("voice", 0, 0, 1).due(1, "count", 9).due(10, "trace", 0).due(NONE, "trace", 1).due(NONE, "trace", 8);
        Due.part("THE TRACE: the numbers of BODIES, as they began");
        String[][] began = {{"10", "11 10", "12", "13 11 10 12"}, {"20 10", "11 20 10", "12", "13 11 20 10 12"},
            {"10", "30 11 10 12", "12", "13 30 11 10 12 12"}, {"10", "11 10", "40 12", "13 11 10 40 12"},
            {"20 10", "11 20 10", "12", "50 13 11 20 10 12 20 10"},
            {"10", "60 30 11 10 12", "12", "13 60 30 11 10 12 12"},
            {"10", "11 10", "70 40 12", "71 11 10 13 11 10 70 40 12"}};
        for (int kind = 0; kind <= 6; kind++) {
            Ask one = new Ask().people(10 * kind + 3);
            for (int act = 0; act <= 3; act++) {
                String[] row = began[kind][act].split(" ");
                one.make("voice", 0, act, 1).due(row.length, "count", 9).due(NONE, "trace", row.length);
                for (int i = 0; i < row.length; i++) {
                    one.due(Integer.parseInt(row[i]), "trace", i);
                }
            }
        }
    }
}
