/** The boundary cases of point 3 of 'Terms', and of promises 17 to 30: DAWNS, what would be, draws, VOICES. */
public final class ThoughtEdgeTest {
    private static final int BEYOND = Ask.BEYOND;
    private static final int NONE = Ask.NONE;
    private static final int STATE = Ask.STATE;
    private static final int MAX = Ask.MAX;
    private static final int MIN = Ask.MIN;

    private ThoughtEdgeTest() {
    }

    public static void main(String[] args) {
        dawns();
        loose();
        then();
        upright();
        uprightLeast();
        adds();
        addsToAPast();
        pardons();
        pardonsOfSeveral();
        starves();
        best();
        brings();
        bringsNext();
        shares();
        odds();
        atMostHungry();
        draws();
        voicesGoRound();
        voiceBeyond();
        Due.end();
    }

    private static void dawns() {
        Due.part("dawns: n (1 to 60)");
        new Ask().people(10).make("change", 0, 2, 100).due(99, "dawns", 1).due(1, "count", 3);
        new Ask().people(10).make("change", 0, 2, 100).due(40, "dawns", 60).due(60, "count", 3);
        Ask o = new Ask();
        for (int n : new int[] {0, 61, -1, MAX, MIN}) {
            o.due(BEYOND, "dawns", n).due(0, "count", 3);
        }
        Due.part("dawns: STATE, DAWN would be above 9999");
        new Ask().comeLate().due(STATE, "dawns", 60).due(STATE, "dawns", 40).due(9960, "count", 3).due(0, "dawns", 39);
        new Ask().comeLate().due(0, "dawns", 38).due(STATE, "dawns", 2).due(0, "dawns", 1).due(STATE, "dawns", 1);
        Due.part("dawns: BEYOND ahead of STATE");
        Ask last = new Ask().comeLate().make("dawns", 39);
        for (int n : new int[] {0, 61, -1, MAX, MIN}) {
            last.due(BEYOND, "dawns", n).due(BEYOND, "loose", n);
        }
        last.due(BEYOND, "loose", 41).due(STATE, "dawns", 60).due(STATE, "loose", 40).dueTold(11, 0, 2);
    }

    private static void loose() {
        Due.part("loose: n (1 to 40)");
        new Ask().people(10).make("lay", 0, 0, 0).make("change", 0, 2, 100).due(99, "loose", 1).due(1, "count", 3);
        new Ask().people(10).make("change", 0, 2, 100).due(60, "loose", 40).due(40, "count", 3)
                .due(drawn(1, 80), "count", 10);
        Ask o = new Ask().people(0);
        for (int n : new int[] {0, 41, 60, -1, MAX, MIN}) {
            o.due(BEYOND, "loose", n).due(0, "count", 3).due(1, "count", 10);
        }
        Due.part("loose: EARS in all BAGS together, likewise");
        Ask sorry = new Ask().people(0, 0).make("wrong", 0, 1, 4).make("wrong", 1, 0, 6).due(3 + 4 - 4, "loose", 1);
        sorry.due(13, "ofCell", 0, 0);
        Due.part("loose: STATE, and z stays");
        Ask late = new Ask().people(0).comeLate().due(STATE, "loose", 40).due(1, "count", 10).due(9960, "count", 3);
        late.due(0, "loose", 39).due(9999, "count", 3).due(drawn(1, 78), "count", 10).due(STATE, "loose", 1);
        late.due(drawn(1, 78), "count", 10);
    }

    private static void then() {
        Due.part("then: BEHIND n DAWNS (0 to 60)");
        Ask o = new Ask().people(10, 20).make("change", 0, 2, 60).make("change", 1, 2, 119);
        o.due(60, "then", 0, 0, 0).due(59, "then", 1, 0, 0).due(0, "then", 60, 0, 0).due(0, "then", 60, 0, 1);
        o.due(119, "then", 0, 1, 0).due(117, "then", 1, 1, 0).due(1, "then", 59, 1, 0).due(0, "then", 60, 1, 0);
        o.due(0, "then", 59, 1, 1).due(1, "then", 60, 1, 1).due(BEYOND, "then", 61, 0, 0).due(BEYOND, "then", -1, 0, 0);
        o.due(BEYOND, "then", 0, 2, 0).due(BEYOND, "then", 0, -1, 0).due(BEYOND, "then", 0, 0, 2);
        o.due(BEYOND, "then", 0, 0, -1).due(0, "count", 3).due(179, "count", 5);
        Due.part("then: all WRONGS weigh");
        Ask sorry = new Ask().people(0, 0).make("wrong", 0, 1, 4).make("wrong", 0, 1, 2).make("wrong", 1, 0, 6);
        sorry.due(2, "then", 1, 0, 0).due(2, "then", 1, 1, 0).due(5, "upright", 0).due(1, "upright", 1);
        sorry.due(2, "best", 0, 1, 1).due(0, "best", 0, 1, 0).make("tell", 4).make("tell", 8).make("tell", 8)
                .due(0, "check");
        Due.part("brings: all else, too, but what WEIGHS on that one");
        sorry.numbers(0, 8, 4, 4, 0).due(2, "brings", 0, 1, 0).due(6, "brings", 0, 1, 1);
        Due.part("then: HUNGRY as it is, behind none");
        o.make("dawns", 60).make("dawns", 5).due(5, "then", 0, 0, 1).due(6, "then", 0, 1, 1).due(65, "then", 60, 0, 1);
    }

    private static void upright() {
        Due.part("upright: behind 1 to 60 DAWNS");
        Ask o = new Ask().people(10);
        for (int bag : new int[] {0, 1, 30, 58, 59}) {
            o.make("change", 0, 2, bag).due(bag + 1, "upright", 0).due(0, "upright", 1);
        }
        Due.part("upright: NONE, not by 60");
        o.make("change", 0, 2, 60).due(NONE, "upright", 0).due(NONE, "upright", 1);
        o.make("change", 0, 2, 9999).due(NONE, "upright", 0).due(NONE, "upright", 1);
        Due.part("upright: nobody is there");
        new Ask().due(NONE, "upright", 0).due(NONE, "upright", 1);
        Due.part("upright: BEYOND ahead of NONE");
        for (int what : new int[] {-1, 2, MAX, MIN}) {
            o.due(BEYOND, "upright", what);
            new Ask().due(BEYOND, "upright", what).dueTold(1, 0);
        }
    }

    private static void uprightLeast() {
        Due.part("upright: the least such one then");
        for (int first = 0; first < 6; first++) {
            Ask o = new Ask().people(20, 20, 20, 20, 20, 20);
            for (int p = 0; p < 6; p++) {
                o.make("change", p, 2, p < first ? 14 : 13);
            }
            o.due(7, "upright", 0).due(first, "upright", 1);
            o.make("change", 5, 2, 11).due(6, "upright", 0).due(5, "upright", 1);
        }
        Due.part("upright: more often than now");
        Ask o = new Ask().people(20, 20).make("dawns", 9).make("change", 0, 2, 8).make("change", 1, 2, 120);
        o.due(9, "ofPerson", 0, 5).due(9, "ofPerson", 1, 5).due(5, "upright", 0).due(0, "upright", 1);
        o.make("change", 0, 2, 120).due(NONE, "upright", 0);
    }

    private static void adds() {
        Due.part("adds: the least WEIGHT more (0 to 40)");
        for (int more : new int[] {0, 1, 2, 20, 39, 40}) {
            Ask o = new Ask().people(0, 20).text(1, 0, "w>" + (more + 2)).make("wrong", 0, 1, 3);
            o.due(more, "adds", 0, 1).due(0, "adds", 0, 0).due(3, "ofPerson", 0, 6);
        }
        Due.part("adds: NONE, by none");
        new Ask().people(0, 20).text(1, 0, "w>43").make("wrong", 0, 1, 3).due(NONE, "adds", 0, 1).due(0, "adds", 0, 0);
        new Ask().people(0).text(1, 0, "w>40").due(NONE, "adds", 0, 1).text(1, 0, "w=40").due(40, "adds", 0, 1);
        new Ask().people(20).due(NONE, "adds", 0, 1).due(NONE, "adds", 0, 60).due(0, "adds", 0, 0);
        Due.part("adds: less may be wanted than is there, and more WEIGHT is never less");
        new Ask().people(0, 20).text(1, 0, "w<3").make("wrong", 0, 1, 3).due(NONE, "adds", 0, 1);
        Due.part("adds: n DAWNS (0 to 60)");
        Ask far = new Ask().people(10).text(1, 0, "w=7").text(1, 1, "1").make("lay", 0, 0, 60).due(7, "adds", 0, 60);
        far.make("lay", 0, 0, 59).due(NONE, "adds", 0, 60).due(7, "adds", 0, 59).due(BEYOND, "adds", 0, 61);
        far.due(BEYOND, "adds", 0, -1).due(BEYOND, "adds", 1, 0).due(BEYOND, "adds", -1, 0);
        Due.part("adds: BEYOND ahead of NONE");
        new Ask().people(20).due(BEYOND, "adds", 0, 61).due(BEYOND, "adds", 1, 60).dueTold(2, 0);
    }

    private static void addsToAPast() {
        Due.part("adds: on one who has a past, on that one alone");
        Ask o = new Ask().people(69, 69).text(1, 0, "w>12").text(1, 1, "3");
        o.due(4, "adds", 0, 1).due(4, "adds", 1, 1).make("wrong", 1, 0, 20).due(4, "adds", 0, 1).due(0, "adds", 1, 1);
        o.due(9, "ofPerson", 0, 6).due(29, "ofPerson", 1, 6);
        Due.part("adds: as often HUNGRY as now, not never");
        new Ask().people(20).make("dawns", 3).make("change", 0, 2, 4).due(0, "adds", 0, 2).due(NONE, "adds", 0, 3);
    }

    private static void pardons() {
        Due.part("pardons: n (0 to 20)");
        Ask o = new Ask().people(10).make("change", 0, 2, 20).due(0, "pardons", 0).due(0, "pardons", 20);
        o.due(BEYOND, "pardons", 21).due(BEYOND, "pardons", -1).due(BEYOND, "pardons", MAX).due(BEYOND, "pardons", MIN);
        o.make("change", 0, 2, 19).due(NONE, "pardons", 20).due(0, "pardons", 19).due(BEYOND, "pardons", 21);
        Due.part("pardons: nobody is there");
        new Ask().due(0, "pardons", 0).due(0, "pardons", 20).due(BEYOND, "pardons", 21);
        Due.part("pardons: all of 8, and none of 8");
        Ask all = new Ask().people(10, 10).make("change", 0, 2, 20).make("change", 1, 2, 20);
        for (int w = 0; w < 8; w++) {
            all.due((1 << w) - 1, "pardons", 20).make("wrong", w % 2, 1 - w % 2, 20);
        }
        all.due(255, "pardons", 0).due(255, "pardons", 20).due(8, "count", 2);
        Ask none = new Ask().people(0, 10).make("change", 1, 2, 20).makeTimes(8, "wrong", 0, 1, 20);
        none.text(1, 0, "w=160").text(1, 1, "3").due(0, "pardons", 1).due(0, "pardons", 10).due(NONE, "pardons", 11);
        none.due(255, "pardons", 0);
        Due.part("pardons: NONE, by no set, not even none");
        new Ask().people(20).due(0, "pardons", 0).due(NONE, "pardons", 1);
        new Ask().people(20, 0).make("wrong", 0, 1, 5).due(1, "pardons", 0).due(NONE, "pardons", 1).dueTold(0, 1);
    }

    private static void pardonsOfSeveral() {
        Due.part("pardons: one of most; of several the least set");
        for (int kept = 0; kept <= 8; kept++) {
            Ask o = new Ask().people(0, 10).make("change", 1, 2, 20).makeTimes(8, "wrong", 0, 1, 1);
            o.text(1, 0, "w>" + kept + "-1").text(1, 1, "3").due((1 << 8 - kept) - 1, "pardons", 1);
        }
        int[][] rows = {{2, 1, 1, 6}, {1, 2, 2, 3}, {2, 1, 2, 3}, {2, 2, 1, 5}, {1, 1, 2, 3}, {1, 2, 1, 5},
            {1, 1, 1, 1}};
        for (int[] r : rows) {
            Ask o = new Ask().people(0, 10).make("change", 1, 2, 20).text(1, 0, "w>1").text(1, 1, "3");
            for (int w = 0; w < 3; w++) {
                o.make("wrong", 0, 1, r[w]);
            }
            o.due(r[3], "pardons", 1);
        }
        Due.part("pardons: sets that must be forgiven so that nobody is HUNGRY");
        Ask o = new Ask().people(0, 10).make("change", 1, 2, 20).make("wrong", 0, 1, 1).make("wrong", 0, 1, 2);
        o.text(1, 1, "3").text(1, 0, "w=2").due(1, "pardons", 1).text(1, 0, "w=1").due(2, "pardons", 1);
        o.text(1, 0, "w=0").due(3, "pardons", 1).text(1, 0, "w=3").due(0, "pardons", 1);
        o.text(1, 0, "w=4").due(NONE, "pardons", 1);
        Due.part("pardons: somebody else would be HUNGRY");
        Ask two = new Ask().people(10, 10).text(1, 0, "w").text(1, 1, "b").make("lay", 0, 0, 3).make("wrong", 0, 1, 2);
        two.make("wrong", 1, 0, 2).make("wrong", 0, 1, 18).due(4, "pardons", 1).due(NONE, "pardons", 2);
    }

    private static void starves() {
        Due.part("starves: as a set, nobody and all six; n DAWNS (0 to 60)");
        new Ask().due(0, "starves", 0).due(0, "starves", 60).due(BEYOND, "starves", 61).due(BEYOND, "starves", -1);
        for (int one = 0; one < 6; one++) {
            Ask o = new Ask().people(10, 10, 10, 10, 10, 10);
            for (int p = 0; p < 6; p++) {
                o.make("change", p, 2, p == one ? 59 : 60);
            }
            o.due(1 << one, "starves", 60).due(0, "starves", 59).due(0, "starves", 0).due(BEYOND, "starves", 61);
            o.due(BEYOND, "starves", -1).due(BEYOND, "starves", MAX).due(BEYOND, "starves", MIN);
        }
        new Ask().people(20, 20, 20, 20, 20, 20).due(0, "starves", 0).due(63, "starves", 1).due(63, "starves", 60);
        Due.part("starves: all that one has done, and no others");
        Ask o = new Ask().people(0, 68).make("lay", 0, 0, 10).make("wrong", 0, 1, 20).make("wrong", 0, 1, 19);
        o.due(3, "starves", 1).make("forgive", 0).due(3, "starves", 1).make("forgive", 0).due(1, "starves", 1);
        Due.part("starves: more often than now");
        Ask was = new Ask().people(20).make("dawns", 7).make("change", 0, 2, 4).due(0, "starves", 2)
                .due(1, "starves", 3);
        was.due(7, "ofPerson", 0, 5);
    }

    private static void best() {
        Due.part("best: each CELL, the last one, too");
        for (int cells = 2; cells <= 10; cells += 8) {
            for (int full = 0; full < cells; full++) {
                Ask o = new Ask().make("field", cells).make("person", 0, cells / 2).text(1, 0, "9").text(1, 1, "5");
                for (int c = 0; c < cells; c++) {
                    o.make("lay", c, 0, c == full ? 5 : 4);
                }
                o.due(full, "best", 0, 1, 0).due(3, "best", 0, 1, 1).due(cells / 2, "ofPerson", 0, 2);
                Due.part("best: behind none the least, with the BAG as it is");
                o.make("change", 0, 2, 44).due(0, "best", 0, 0, 0).due(44, "best", 0, 0, 1);
            }
        }
        Due.part("best: of several the least");
        Ask o = new Ask().make("person", 0, 4).text(1, 0, "9").text(1, 1, "5").due(0, "best", 0, 1, 0);
        o.make("lay", 0, 0, 4).due(1, "best", 0, 1, 0).make("lay", 1, 0, 0).make("lay", 2, 0, 0)
                .due(3, "best", 0, 1, 0);
        Due.part("best: nothing is left anywhere");
        o.due(0, "best", 0, 60, 0).due(0, "best", 0, 60, 1);
        Due.part("best: the BAG, held");
        o.make("change", 0, 2, 9999).due(0, "best", 0, 1, 0).due(9997, "best", 0, 1, 1);
        Due.part("best: n DAWNS (0 to 60)");
        Ask far = new Ask().people(10).make("change", 0, 2, 100).make("lay", 3, 1, 0).make("lay", 3, 0, 70);
        far.due(3, "best", 0, 60, 0).due(100, "best", 0, 60, 1).due(BEYOND, "best", 0, 61, 0);
        far.due(BEYOND, "best", 0, -1, 0).due(BEYOND, "best", 1, 0, 0).due(BEYOND, "best", -1, 0, 0);
        far.due(BEYOND, "best", 0, 0, 2).due(BEYOND, "best", 0, 0, -1);
    }

    private static void brings() {
        Due.part("brings: what could weigh, 0 to 99");
        Object[][] rows = {{"w=0", 1, 0, 99, 1}, {"w=99", 1, 99, 99, 0}, {"w=100", 0, NONE, 100, 0},
            {"w>98", 1, 99, 99, 0},
            {"w<0", 0, NONE, 100, 0}, {"w>0-1", 100, 0, 0, NONE}, {"w=50", 1, 50, 99, 0}, {"w>1", 98, 2, 2, 0}};
        for (Object[] r : rows) {
            Ask o = new Ask().people(0).text(1, 0, (String) r[0]).text(1, 1, "5").numbers(0, 8, 5).numbers(3, 32, 0);
            o.due((Integer) r[1], "brings", 0, 0, 0).due((Integer) r[2], "brings", 0, 0, 1);
            o.due((Integer) r[3], "brings", 3, 0, 0).due((Integer) r[4], "brings", 3, 0, 1);
        }
        Due.part("brings: in place of all that weighs");
        Ask past = new Ask().people(69, 20).make("wrong", 0, 1, 20).text(1, 0, "w=3").text(1, 1, "b").numbers(0, 8, 1);
        past.due(1, "brings", 0, 0, 0).due(3, "brings", 0, 0, 1).due(29, "ofPerson", 0, 6);
        Due.part("brings: a SHEET without numbers");
        new Ask().people(0).numbers(0, 8).due(100, "brings", 0, 0, 0).due(0, "brings", 0, 0, 1);
        Due.part("brings: numbers that nobody picks");
        new Ask().people(0).numbers(0, 8, -1).numbers(1, 16, 300).numbers(2, 32, 65536 + 2).due(0, "brings", 0, 0, 0)
                .due(NONE, "brings", 0, 0, 1).due(0, "brings", 1, 0, 0).due(0, "brings", 2, 0, 0)
                .due(NONE, "brings", 2, 0, 1);
        Due.part("brings: BEYOND ahead of NONE, the SHEET is missing");
        Ask o = new Ask().people(0).due(NONE, "brings", 0, 0, 0).due(NONE, "brings", 3, 0, 1)
                .due(BEYOND, "brings", 4, 0, 0);
        o.due(BEYOND, "brings", -1, 0, 0).due(BEYOND, "brings", 0, 1, 0).due(BEYOND, "brings", 0, -1, 0);
        o.due(BEYOND, "brings", 0, 0, 2).due(BEYOND, "brings", 0, 0, -1).dueTold(6, 2);
    }

    private static void bringsNext() {
        Due.part("brings: at DAWN now, and at the next ones");
        Ask o = new Ask().people(0).make("dawns", 2).text(1, 0, "d=2|d=4").text(1, 1, "5");
        o.numbers(0, 8, 5, 0, 5, 0).due(100, "brings", 0, 0, 0).numbers(0, 8, 0, 5).due(0, "brings", 0, 0, 0);
        Due.part("brings: 40 numbers, the last one, too");
        Ask far = new Ask().people(20).make("sheet", 0, 16, 40).due(100, "brings", 0, 0, 0).make("put", 0, 39, 1);
        far.due(0, "brings", 0, 0, 0).make("put", 0, 39, 0).make("put", 0, 0, 1).due(0, "brings", 0, 0, 0);
        Due.part("brings: picked into a BAG that is held");
        Ask held = new Ask().people(0).text(1, 0, "1").text(1, 1, "5").make("change", 0, 2, 9999)
                .numbers(0, 8, 5, 5, 5, 5, 0);
        held.due(100, "brings", 0, 0, 0);
        Due.part("brings: AT, WAY as they are");
        Ask goes = new Ask().make("field", 2).people(0).make("change", 0, 1, -1).text(1, 0, "1").text(1, 1, "e");
        goes.make("lay", 0, 0, 7).make("lay", 1, 0, 8).numbers(0, 8, 7, 0, 8).due(100, "brings", 0, 0, 0);
        goes.numbers(0, 8, 7, 8).due(0, "brings", 0, 0, 0).due(0, "ofPerson", 0, 2).due(-1, "ofPerson", 0, 3);
    }

    private static void shares() {
        Due.part("shares: n times what one EATS, or what there still is");
        int[] eats = {2, 1, 2, 2, 1, 3};
        for (int n : new int[] {1, 2, 30}) {
            for (int all : new int[] {0, 1, 2, 3 * n, 3 * n + 1, 11 * n - 1, 11 * n, 11 * n + 1, 9999}) {
                Ask o = new Ask().people(0, 10, 20, 30, 40, 50).make("change", 5, 2, all);
                int left = all;
                for (int p = 0; p < 6; p++) {
                    int gets = left < n * eats[p] ? left : n * eats[p];
                    o.due(gets, "shares", n, p);
                    left -= gets;
                }
                o.due(left, "shares", n, -1).due(all, "ofPerson", 5, 4);
            }
        }
        Due.part("shares: all BAGS full");
        Ask full = new Ask().people(50, 50, 50, 50, 50, 50);
        for (int p = 0; p < 6; p++) {
            full.make("change", p, 2, 9999);
        }
        full.due(59994 - 540, "shares", 30, -1).due(90, "shares", 30, 0).due(90, "shares", 30, 5);
        Due.part("shares: BEYOND");
        int[][] wrong = {{0, -1}, {31, -1}, {-1, -1}, {MAX, -1}, {MIN, -1}, {1, -2}, {1, 6}, {30, 6}, {1, MAX},
            {1, MIN}};
        for (int[] w : wrong) {
            full.due(BEYOND, "shares", w[0], w[1]);
        }
        Due.part("shares: nobody is there");
        new Ask().due(0, "shares", 1, -1).due(0, "shares", 30, -1).due(BEYOND, "shares", 1, 0);
    }

    private static void odds() {
        Due.part("odds: a fraction in lowest terms (0 is 0 by 1)");
        for (int all = 1; all <= 8; all++) {
            for (int bad = 0; bad <= all; bad++) {
                Ask o = new Ask().people(0, 10).text(1, 0, "w=" + bad).text(1, 1, "3");
                for (int w = 0; w < all; w++) {
                    o.make("wrong", w < bad ? 0 : 1, w < bad ? 1 : 0, 1);
                }
                int shared = 1;
                for (int d = 2; d <= all; d++) {
                    shared = (all - bad) % d == 0 && all % d == 0 ? d : shared;
                }
                o.due((all - bad) / shared, "odds", 0, 1, 0).due(all / shared, "odds", 0, 1, 1);
                o.due(1, "odds", 0, 0, 0).due(1, "odds", 0, 0, 1).due(all, "count", 2);
            }
        }
        Due.part("odds: n DAWNS (0 to 60)");
        Ask o = new Ask().people(10, 20).make("change", 0, 2, 60).make("wrong", 0, 1, 1).due(1, "odds", 0, 60, 0);
        o.make("change", 0, 2, 59).due(0, "odds", 0, 60, 0).due(1, "odds", 0, 60, 1).due(1, "odds", 0, 59, 0);
        o.due(BEYOND, "odds", 0, 61, 0).due(BEYOND, "odds", 0, -1, 0).due(BEYOND, "odds", 2, 0, 0);
        o.due(BEYOND, "odds", -1, 0, 0).due(BEYOND, "odds", 0, 0, 2).due(BEYOND, "odds", 0, 0, -1);
        Due.part("odds: STATE, there are no WRONGS; BEYOND ahead of it");
        Ask none = new Ask().people(0).due(STATE, "odds", 0, 0, 0).due(STATE, "odds", 0, 60, 1);
        none.due(BEYOND, "odds", 1, 0, 0).due(BEYOND, "odds", 0, 61, 0).due(BEYOND, "odds", 0, 0, 2).dueTold(3, 0, 2);
        Due.part("odds: the last WRONG gone, STATE again");
        o.make("forgive", 0).due(STATE, "odds", 0, 0, 0);
    }

    /** HUNGRY is held at 9999 in thoughts, so it can't be more often than now there. */
    private static void atMostHungry() {
        Due.part("HUNGRY 9998 may be one more");
        Ask o = new Ask().people(20, 20).make("wrong", 0, 1, 1).comeLate().make("dawns", 38)
                .due(9998, "ofPerson", 0, 5);
        o.due(9999, "then", 1, 0, 1).due(9999, "then", 60, 0, 1).due(1, "upright", 0).due(0, "upright", 1);
        o.due(NONE, "adds", 0, 1).due(NONE, "pardons", 1).due(3, "starves", 60).due(0, "odds", 1, 1, 0);
        Due.part("HUNGRY 9999 may not");
        o.make("dawns", 1).due(9999, "ofPerson", 0, 5).due(9999, "then", 1, 0, 1).due(NONE, "upright", 0);
        o.due(0, "adds", 0, 60).due(1, "pardons", 20).due(0, "starves", 60).due(1, "odds", 1, 60, 0);
    }

    private static void draws() {
        Due.part("DAWNS by draws: z * 1103515245 + 12345 (an int), z >>> 8, rests by PEOPLE and by 3");
        int[] seeds = {0, 1, 2, 3, 5, 77, 1000, -1, -2, 12345, MAX, MIN, MAX - 1, MIN + 1, 255, 256, -256, 1 << 30};
        for (int people = 1; people <= 6; people++) {
            for (int seed : seeds) {
                Ask o = new Ask().due(1, "seed", seed);
                for (int p = 0; p < people; p++) {
                    o.make("person", 20, 2);
                }
                o.make("loose", 1);
                int who = (drawn(seed, 1) >>> 8) % people;
                int way = (drawn(seed, 2) >>> 8) % 3 - 1;
                for (int p = 0; p < people; p++) {
                    o.due(p == who ? way : 0, "ofPerson", p, 3).due(p == who ? 2 + way : 2, "ofPerson", p, 2);
                }
                o.due(drawn(seed, 2), "seed", 1);
            }
        }
        Due.part("DAWNS by draws: no draws without PEOPLE");
        new Ask().due(1, "seed", -7).due(0, "loose", 40).due(-7, "count", 10).due(40, "count", 3);
        Due.part("seed: any number, no ERROR");
        Ask o = new Ask();
        int z = 1;
        for (int v : new int[] {0, MAX, MIN, -1, -1000000000, -1000000001, -1000000005, 7}) {
            o.due(z, "seed", v).due(v, "count", 10);
            z = v;
        }
        o.dueTold(0, 0, 0, 0, 0);
    }

    private static int drawn(int z, int n) {
        int drawn = z;
        for (int i = 0; i < n; i++) {
            drawn = drawn * 1103515245 + 12345;
        }
        return drawn;
    }

    private static int voice(int kind, int act, int x, int n, int m) {
        int bows = (x + n) * (kind == 1 || kind == 4 ? 3 : 1);
        int picks = bows * 2;
        if (kind == 2) {
            picks = picks - (1 - m);
        } else if (kind == 5) {
            picks = (x + 1 + n) * 2 - (1 - m);
        }
        int sighs = kind == 3 ? -(x - m) : kind == 6 ? -(x - m) ^ n : x - m;
        int stands = picks ^ sighs;
        if (kind == 4) {
            stands = stands - (2 + n) * 3;
        } else if (kind == 6) {
            stands = picks - stands;
        }
        return new int[] {bows, picks, sighs, stands}[act];
    }

    private static void voicesGoRound() {
        Due.part("VOICES with a number x (ints that go round)");
        int[] values = {MIN, MIN + 1, MIN + 9, -1000000001, -1000000005, -1, 0, 1, MAX / 2, MAX / 3, MAX - 4, MAX};
        for (int kind = 0; kind <= 6; kind++) {
            for (int m = 0; m <= 9; m += 9) {
                Ask o = new Ask().people(0, 0, 0, 0, 0, 10 * kind + m).make("become", 0, 10 * kind + m);
                for (int x : values) {
                    for (int act = 0; act <= 3; act++) {
                        o.due(voice(kind, act, x, 5, m), "voice", 5, act, x);
                        o.due(voice(kind, act, x, 0, m), "voice", 0, act, x);
                    }
                }
                o.dueTold(0, 0, 0, 0, 0);
            }
        }
    }

    private static void voiceBeyond() {
        Due.part("voice: BEYOND, and THE TRACE stays");
        Ask o = new Ask().people(35, 0).make("voice", 0, 2, 1);
        long[][] wrong = {{-1, 0, 0}, {2, 0, 0}, {0, -1, 0}, {0, 4, 0}, {MAX, 0, 0}, {MIN, 0, 0}, {0, MAX, 0},
            {0, MIN, 0}};
        for (long[] w : wrong) {
            o.due(BEYOND, "voice", w).due(2, "count", 9).due(40, "trace", 0).due(12, "trace", 1).due(NONE, "trace", 2);
        }
        new Ask().due(BEYOND, "voice", 0, 0, 0).due(0, "count", 9);
    }
}
