/** Each promise by hand: ordinary inputs, the edges that the document names, and wrong inputs. */
public final class PromiseTest {
    private static final int BEYOND = -1000000001;
    private static final int NONE = -1000000002;
    private static final int STATE = -1000000003;
    private static final int FULL = -1000000004;
    private static final int KIND = -1000000005;
    private static final int MAX = Integer.MAX_VALUE;
    private static final int MIN = Integer.MIN_VALUE;

    private PromiseTest() {
    }

    public static void main(String[] args) {
        promise1();
        promise2();
        promise3();
        promise4();
        promise5();
        promise6();
        promise7();
        promise8();
        promise9();
        promise10();
        promise11();
        promise12();
        promise13();
        promise14();
        promise15();
        promise15Faults();
        promise16();
        promise16Texts();
        promise17();
        promise17LastDawn();
        promise18();
        promise19();
        promise19JustBelowMostHungry();
        promise20();
        promise21();
        promise22();
        promise23();
        promise24();
        promise25();
        promise26();
        promise27();
        promise28();
        promise29();
        promise30();
        promise31();
        promise32();
        promise33();
        promise34();
        promise35();
        promise36();
        promise37();
        promise37Anew();
        promise38();
        promise39();
        promise40();
        promise41();
        Due.end();
    }

    private static void is(String call, long got, long want) {
        Due.is(call, got, want);
    }

    /** Feeds a text whole. */
    private static void feed(GleanedSorry o, String s) {
        for (int i = 0; i < s.length(); i++) {
            is("feed", o.feed(s.charAt(i), 1), i + 1);
        }
    }

    private static int text(GleanedSorry o, int use, String s) {
        feed(o, s);
        return o.text(use);
    }

    private static GleanedSorry with(int... kms) {
        GleanedSorry o = new GleanedSorry();
        for (int i = 0; i < kms.length; i++) {
            is("person", o.person(kms[i], 0), i);
        }
        return o;
    }

    private static void promise1() {
        Due.part("promise 1");
        GleanedSorry o = new GleanedSorry();
        int[] counts = {5, 0, 0, 0, 100, 0, 0, 0, 0, 0, 1};
        for (int i = 0; i < counts.length; i++) {
            is("count " + i, o.count(i), counts[i]);
        }
        for (int cell = 0; cell < 5; cell++) {
            is("ears", o.ofCell(cell, 0), 20);
            is("low", o.ofCell(cell, 1), 1);
            is("who", o.ofCell(cell, 2), 0);
        }
        for (int k = 1; k <= 5; k++) {
            is("told", o.told(k), 0);
        }
        for (int s = 0; s < 4; s++) {
            is("sheet is missing", o.judge(s), NONE);
        }
        is("law without a text", o.law(0, 8, 0, 0), 4);
        is("law without a text", o.law(1, 8, 0, 0), 9);
        is("no image", o.restore(), NONE);
        is("no body", o.trace(0), NONE);
    }

    private static void promise2() {
        Due.part("promise 2");
        GleanedSorry o = new GleanedSorry();
        is("field", o.field(10), 5);
        is("lay", o.lay(9, 0, 7), 20);
        is("lay", o.lay(9, 1, 7), 1);
        is("field", o.field(2), 10);
        is("cells", o.count(0), 2);
        is("ofCell", o.ofCell(2, 0), BEYOND);
        is("field", o.field(10), 2);
        is("ears anew", o.ofCell(9, 0), 20);
        is("low anew", o.ofCell(9, 1), 1);
        is("lay", o.lay(0, 0, 3), 20);
        is("as many again", o.field(10), 10);
        is("ears anew", o.ofCell(0, 0), 20);
        for (int n : new int[] {1, 0, -1, 11, MAX, MIN}) {
            is("field", o.field(n), BEYOND);
        }
        is("person", o.person(0, 0), 0);
        is("field", o.field(5), STATE);
        is("beyond comes first", o.field(1), BEYOND);
        is("cells stay", o.count(0), 10);
    }

    private static void promise3() {
        Due.part("promise 3");
        GleanedSorry o = new GleanedSorry();
        is("ears", o.lay(4, 0, 999), 20);
        is("ears", o.lay(4, 0, 0), 999);
        is("ears", o.lay(4, 0, 5), 0);
        is("low", o.lay(4, 1, 9), 1);
        is("low", o.lay(4, 1, 0), 9);
        int[][] wrong = {{-1, 0, 1}, {5, 0, 1}, {0, -1, 1}, {0, 2, 1}, {0, 0, -1}, {0, 0, 1000}, {0, 1, -1},
            {0, 1, 10}, {MAX, 0, 0}, {MIN, 0, 0}};
        for (int[] w : wrong) {
            is("lay", o.lay(w[0], w[1], w[2]), BEYOND);
        }
        is("nothing is changed", o.count(4), 85);
        is("only that one", o.ofCell(4, 0), 5);
    }

    private static void promise4() {
        Due.part("promise 4");
        GleanedSorry o = with(0, 10, 20);
        is("change", o.change(1, 0, 4), 0);
        is("who", o.ofCell(0, 2), 5);
        is("who", o.ofCell(4, 2), 2);
        is("who", o.ofCell(3, 2), 0);
        is("low", o.lay(3, 1, 8), 1);
        is("low", o.ofCell(3, 1), 8);
        is("ears", o.ofCell(3, 0), 20);
        int[][] wrong = {{-1, 0}, {5, 0}, {0, -1}, {0, 3}, {MAX, 0}, {MIN, 2}};
        for (int[] w : wrong) {
            is("ofCell", o.ofCell(w[0], w[1]), BEYOND);
        }
    }

    private static void promise5() {
        Due.part("promise 5");
        GleanedSorry o = new GleanedSorry();
        int[][] wrong = {{-1, 0}, {70, 0}, {0, -1}, {0, 5}, {MAX, 0}, {0, MIN}};
        for (int[] w : wrong) {
            is("person", o.person(w[0], w[1]), BEYOND);
        }
        int[] kms = {0, 69, 15, 27, 33, 48};
        for (int i = 0; i < 6; i++) {
            is("person", o.person(kms[i], i % 5), i);
        }
        for (int i = 0; i < 6; i++) {
            is("kind", o.ofPerson(i, 0), kms[i] / 10);
            is("m", o.ofPerson(i, 1), kms[i] % 10);
            is("at", o.ofPerson(i, 2), i % 5);
            for (int what = 3; what <= 5; what++) {
                is("at first", o.ofPerson(i, what), 0);
            }
        }
        is("person", o.person(0, 0), FULL);
        is("beyond comes first", o.person(70, 0), BEYOND);
        is("beyond comes first", o.person(0, 5), BEYOND);
        is("people", o.count(1), 6);
    }

    private static void promise6() {
        Due.part("promise 6");
        // Of each KIND one, all AT one CELL, m 5; each weighs 8 by wrongs done to the next one.
        GleanedSorry o = with(5, 15, 25, 35, 45, 55);
        for (int i = 0; i < 6; i++) {
            is("wrong", o.wrong(i, (i + 1) % 6, 8), i);
        }
        int[] bends = {4, 3, 0, 6, 4, 2};
        int[] eats = {2, 1, 2, 2, 1, 3};
        for (int i = 0; i < 6; i++) {
            is("weighs", o.ofPerson(i, 6), 8);
            is("bends", o.ofPerson(i, 7), bends[i]);
            is("eats", o.ofPerson(i, 8), eats[i]);
        }
        is("become", o.become(0, 65), 0);
        is("a past weighs", o.ofPerson(0, 6), 13);
        is("bends", o.ofPerson(0, 7), 8);
        is("eats", o.ofPerson(0, 8), 3);
        is("become", o.become(0, 68), 6);
        is("eats", o.ofPerson(0, 8), 2);
        is("alone", o.change(1, 0, 3), 0);
        is("a sister alone", o.ofPerson(1, 7), 4);
        is("alone", o.change(4, 0, 2), 0);
        is("a lover alone", o.ofPerson(4, 7), 5);
        GleanedSorry sisters = with(10, 40);
        is("0 at least", sisters.ofPerson(0, 7), 0);
        is("0 at least, and 1", sisters.ofPerson(1, 7), 1);
        is("wrong", sisters.wrong(0, 1, 20), 0);
        is("held, then less 1", sisters.ofPerson(0, 7), 8);
        is("wrong", sisters.wrong(1, 0, 20), 1);
        is("held, less 1, and 1", sisters.ofPerson(1, 7), 9);
        is("alone", sisters.change(0, 0, 1), 0);
        is("held, and 1", sisters.ofPerson(1, 7), 10);
        int[][] wrong = {{-1, 0}, {6, 0}, {0, -1}, {0, 9}, {MAX, 0}, {0, MIN}};
        for (int[] w : wrong) {
            is("ofPerson", o.ofPerson(w[0], w[1]), BEYOND);
        }
        is("nobody", new GleanedSorry().ofPerson(0, 0), BEYOND);
    }

    private static void promise7() {
        Due.part("promise 7");
        GleanedSorry o = with(0, 0);
        is("at", o.change(1, 0, 4), 0);
        is("at", o.change(1, 0, 0), 4);
        is("way", o.change(1, 1, -1), 0);
        is("way", o.change(1, 1, 1), -1);
        is("bag", o.change(1, 2, 9999), 0);
        is("bag", o.change(1, 2, 0), 9999);
        is("bag", o.change(1, 2, 3), 0);
        int[][] wrong = {{-1, 0, 0}, {2, 0, 0}, {0, -1, 0}, {0, 3, 0}, {0, 0, -1}, {0, 0, 5}, {0, 1, -2},
            {0, 1, 2}, {0, 2, -1}, {0, 2, 10000}, {MIN, 0, 0}};
        for (int[] w : wrong) {
            is("change", o.change(w[0], w[1], w[2]), BEYOND);
        }
        is("way", o.ofPerson(1, 3), 1);
        is("bag", o.ofPerson(1, 4), 3);
        is("the other's", o.ofPerson(0, 4), 0);
    }

    private static void promise8() {
        Due.part("promise 8");
        GleanedSorry o = with(7);
        is("change", o.change(0, 2, 30), 0);
        is("become", o.become(0, 69), 0);
        is("become", o.become(0, 0), 6);
        is("become", o.become(0, 43), 0);
        is("m", o.ofPerson(0, 1), 3);
        is("the bag stays", o.ofPerson(0, 4), 30);
        is("become", o.become(0, 70), BEYOND);
        is("become", o.become(0, -1), BEYOND);
        is("become", o.become(1, 0), BEYOND);
        is("become", o.become(-1, 0), BEYOND);
        is("kind", o.ofPerson(0, 0), 4);
    }

    private static void promise9() {
        Due.part("promise 9");
        // A row for each KIND: of which KINDS it is.
        String[] of = {"0", "01", "02", "03", "014", "025", "036"};
        GleanedSorry o = with(0);
        for (int kind = 0; kind < 7; kind++) {
            o.become(0, kind * 10 + 4);
            for (int as = 0; as < 7; as++) {
                is(kind + " as " + as, o.as(0, as), of[kind].indexOf('0' + as) >= 0 ? 4 : KIND);
            }
        }
        is("as", o.as(0, 7), BEYOND);
        is("as", o.as(0, -1), BEYOND);
        is("as", o.as(1, 0), BEYOND);
        is("as", o.as(-1, 0), BEYOND);
    }

    private static void promise10() {
        Due.part("promise 10");
        GleanedSorry o = with(0, 0);
        int[][] wrong = {{0, 0, 1}, {-1, 0, 1}, {2, 0, 1}, {0, -1, 1}, {0, 2, 1}, {0, 1, 0}, {0, 1, 21},
            {0, 1, -1}, {0, 1, MAX}};
        for (int[] w : wrong) {
            is("wrong", o.wrong(w[0], w[1], w[2]), BEYOND);
        }
        for (int i = 0; i < 8; i++) {
            is("wrong", o.wrong(i % 2, 1 - i % 2, i == 0 ? 20 : 1), i);
        }
        is("wrong", o.wrong(0, 1, 1), FULL);
        is("beyond comes first", o.wrong(0, 0, 1), BEYOND);
        is("weighs", o.ofPerson(0, 6), 23);
        is("weighs", o.ofPerson(1, 6), 4);
    }

    private static void promise11() {
        Due.part("promise 11");
        GleanedSorry o = with(0, 0, 0);
        is("wrong", o.wrong(0, 1, 5), 0);
        is("wrong", o.wrong(2, 1, 20), 1);
        is("who", o.ofWrong(1, 0), 2);
        is("to whom", o.ofWrong(1, 1), 1);
        is("weight", o.ofWrong(1, 2), 20);
        is("weight", o.ofWrong(0, 2), 5);
        int[][] wrong = {{-1, 0}, {2, 0}, {0, -1}, {0, 3}};
        for (int[] w : wrong) {
            is("ofWrong", o.ofWrong(w[0], w[1]), BEYOND);
        }
    }

    private static void promise12() {
        Due.part("promise 12");
        GleanedSorry o = with(0, 0);
        for (int i = 0; i < 8; i++) {
            is("wrong", o.wrong(0, 1, i + 1), i);
        }
        is("forgive", o.forgive(8), BEYOND);
        is("forgive", o.forgive(-1), BEYOND);
        is("forgive", o.forgive(2), 7);
        int[] left = {1, 2, 4, 5, 6, 7, 8};
        for (int i = 0; i < left.length; i++) {
            is("those greater go one down", o.ofWrong(i, 2), left[i]);
        }
        is("forgive", o.forgive(7), BEYOND);
        is("forgive", o.forgive(6), 6);
        is("forgive", o.forgive(0), 5);
        is("weighs", o.ofPerson(0, 6), 2 + 4 + 5 + 6 + 7);
        is("room again", o.wrong(1, 0, 3), 5);
        is("who", o.ofWrong(5, 0), 1);
        is("forgive", o.forgive(0), 5);
        is("who goes down, too", o.ofWrong(4, 0), 1);
        is("to whom goes down, too", o.ofWrong(4, 1), 0);
        is("weighs", o.ofPerson(1, 6), 3);
    }

    private static void promise13() {
        Due.part("promise 13");
        GleanedSorry o = with(0, 0, 0);
        is("wrong", o.wrong(0, 1, 5), 0);
        is("borrow", o.borrow(0, 2), 0);
        is("who", o.ofWrong(0, 0), 2);
        is("to whom", o.ofWrong(0, 1), 1);
        is("weighs", o.ofPerson(2, 6), 5);
        is("weighs", o.ofPerson(0, 6), 0);
        is("to whom it was done", o.borrow(0, 1), BEYOND);
        is("borrow", o.borrow(0, 3), BEYOND);
        is("borrow", o.borrow(0, -1), BEYOND);
        is("borrow", o.borrow(1, 0), BEYOND);
        is("borrow", o.borrow(-1, 0), BEYOND);
        is("borrow", o.borrow(0, 0), 2);
    }

    private static void promise14() {
        Due.part("promise 14");
        GleanedSorry o = new GleanedSorry();
        for (int n : new int[] {0, 9, -1, MAX, MIN}) {
            is("feed", o.feed(0, n), BEYOND);
        }
        for (int i = 1; i <= 6; i++) {
            is("feed", o.feed(-1L, 8), 8 * i);
        }
        is("feed", o.feed(0, 3), FULL);
        is("beyond comes first", o.feed(0, 9), BEYOND);
        is("feed", o.feed(0, 2), 50);
        is("feed", o.feed(0, 1), FULL);
        is("tape", o.count(7), 50);
        // The lowest byte first: 12345678, then 7 of them without the highest.
        GleanedSorry p = new GleanedSorry();
        is("feed", p.feed(0x342b3132332b3132L, 8), 8);
        is("text", p.text(1), 1);
        is("21+321+4", p.law(1, 0, 0, 0), 99);
        is("feed", p.feed(0x7a7a2b31322d3734L, 5), 5);
        is("text", p.text(1), 1);
        is("47-21", p.law(1, 0, 0, 0), 26);
    }

    private static void promise15() {
        Due.part("promise 15");
        GleanedSorry o = new GleanedSorry();
        is("text", text(o, 0, "w*2"), 1);
        is("the tape is empty then", o.count(7), 0);
        is("law", o.law(0, 3, 0, 0), 6);
        is("fault", text(o, 0, "w+"), -12);
        is("the tape is empty then", o.count(7), 0);
        is("the one ahead stays", o.law(0, 3, 0, 0), 6);
        is("no error", o.told(1) + o.told(2) + o.told(3) + o.told(4) + o.told(5), 0);
        feed(o, "m");
        is("text", o.text(2), BEYOND);
        is("text", o.text(-1), BEYOND);
        is("the tape stays", o.count(7), 1);
        is("text", o.text(0), 1);
        is("law", o.law(0, 3, 5, 0), 5);
        is("an empty tape", o.text(0), -10);
        is("an empty tape", o.text(1), -10);
        is("the other use has none", o.law(1, 3, 0, 0), 4);
        is("text", text(o, 1, "e/2"), 1);
        is("law", o.law(1, 0, 9, 0), 4);
        is("law", o.law(0, 3, 5, 0), 5);
    }

    private static void promise15Faults() {
        Due.part("promise 15, faults");
        String[] right = {"w", "m", "d", "0", "9999", "0000", "((((( w )))))".replace(" ", ""), "!!!!!w",
            "!(!(!1))", "1<2", "1<2&3=4|5>6", "(1<2)<3", "1+2-3*4/5%6", "!1*!2", "!1+(2)",
            "!w+!w+!w+!w+!w+!w+!w", "(1)+(1)+(1)+(1)+(1)+(1)", "!(!(w))|!(!(w))",
            "1+1+1+1+1+1+1+1+1+1+1+1+1+1+1+1+1+1+1+1+1+1+1+1+11"};
        GleanedSorry o = new GleanedSorry();
        for (String s : right) {
            is(s, text(o, 0, s), 1);
        }
        Object[][] faults = {{"b", 0}, {"e", 0}, {"x", 0}, {" ", 0}, {"+", 0}, {"-1", 0}, {")", 0}, {"|w", 0},
            {"12345", 4}, {"1234w", 4}, {"w1", 1}, {"ww", 1}, {"1w", 1}, {"w ", 1}, {"w)", 1}, {"w(", 1}, {"w!", 1},
            {"(w", 2}, {"(", 1}, {"()", 1}, {"!", 1}, {"!)", 1}, {"w+", 2}, {"w+*", 2}, {"w||w", 2}, {"w&&w", 2},
            {"1<2<3", 3}, {"1=2=3", 3}, {"1<2>3", 3}, {"1<2+3=4", 5}, {"(1<2<3)", 4}, {"1<=2", 2},
            {"((((((w))))))", 5}, {"!!!!!!w", 5}, {"!!!((!w))", 5}, {"!(!(!(w)))", 5}, {"(w))", 3}, {"(w(", 2},
            {"(((((w)))))(", 11}, {"(((((w))))", 10}};
        for (Object[] f : faults) {
            is((String) f[0], text(o, 0, (String) f[0]), -10 - (Integer) f[1]);
        }
        is("w is no name there", text(o, 1, "w"), -10);
        is("d is no name there", text(o, 1, "b+d"), -12);
        is("feed", o.feed(0xB7, 1), 1);
        is("a byte above 127", o.text(0), -10);
        is("feed", o.feed(0x77, 2), 2);
        is("a byte 0", o.text(0), -11);
        is("fault at the end of 50", text(o, 0, "1+1+1+1+1+1+1+1+1+1+1+1+1+1+1+1+1+1+1+1+1+1+1+1+1+"), -60);
    }

    private static void promise16() {
        Due.part("promise 16");
        GleanedSorry o = new GleanedSorry();
        is("law", o.law(0, 5, 99, 99), 2);
        is("held", o.law(0, 20, 0, 0), 9);
        is("held", o.law(0, -20, 0, 0), 0);
        is("law", o.law(1, 5, 0, 0), 6);
        is("held", o.law(1, 98, 0, 0), 99);
        is("held", o.law(1, 99, 0, 0), 99);
        is("held", o.law(1, -2, 0, 0), 0);
        is("an int goes round", o.law(1, MAX, 0, 0), 0);
        for (int use : new int[] {-1, 2, MAX, MIN}) {
            is("law", o.law(use, 0, 0, 0), BEYOND);
        }
        is("text", text(o, 0, "w*100+m*10+d-321"), 1);
        is("names in order", o.law(0, 3, 2, 5), 4);
        is("text", text(o, 1, "b*100+e*10+m-321"), 1);
        is("names in order", o.law(1, 3, 2, 5), 4);
    }

    private static int worth(String s, int b, int e, int m) {
        GleanedSorry o = new GleanedSorry();
        is(s, text(o, 1, s), 1);
        return o.law(1, b, e, m);
    }

    private static void promise16Texts() {
        Due.part("promise 16, texts");
        Object[][] worths = {{"7-2-1", 4}, {"7-(2-1)", 6}, {"48/4/3", 4}, {"2+3*4", 14}, {"(2+3)*4", 20},
            {"17%5", 2}, {"17/5", 3}, {"50+(0-7)/2", 47}, {"50+(0-7)%2", 49}, {"9/0", 0}, {"9%0", 0}, {"5+9/(3-3)", 5},
            {"5|0", 1}, {"0|0", 0}, {"5&7", 1}, {"5&0", 0}, {"0|7|0", 1}, {"3&0|2", 1}, {"2|3&0", 1},
            {"3<4", 1}, {"4<3", 0}, {"3<3", 0}, {"3=3", 1}, {"3=4", 0}, {"4>3", 1}, {"3>3", 0}, {"!0", 1}, {"!7", 0},
            {"!!7", 1}, {"!0+5", 6}, {"!(3<4)", 0}, {"1+1<1+2", 1}, {"1<2&2<3", 1}, {"(1<2)+(3<4)", 2},
            {"7*8%5", 1}, {"5+(0|0)", 5}, {"5+(2&0)", 5}, {"5+(4<3)", 5}, {"5+(4=3)", 5}, {"5+(3>4)", 5},
            {"5+9%(3-3)", 5}, {"(0|3)+(2&2)", 2}, {"!(0|3)", 0},
            {"2*3+4*5-6", 20}, {"0012", 12}, {"(((((7)))))", 7}, {"!!!!!0", 1}};
        for (Object[] w : worths) {
            is((String) w[0], worth((String) w[0], 0, 0, 0), (Integer) w[1]);
        }
        is("ints go round", worth("b*b", 65536, 0, 0), 0);
        is("ints go round", worth("b+1<0", MAX, 0, 0), 1);
        is("the least by -1", worth("b/(0-1)=b", MIN, 0, 0), 1);
        is("the least by -1", worth("b%(0-1)", MIN, 0, 0), 0);
        is("all true that is not 0", worth("b&e", -1, MIN, 0), 1);
    }

    private static void promise17() {
        Due.part("promise 17");
        GleanedSorry o = with(0, 10);
        is("wrong", o.wrong(0, 1, 6), 0);
        is("lay", o.lay(0, 1, 3), 1);
        is("change", o.change(0, 1, -1), 0);
        is("change", o.change(1, 1, 1), 0);
        // 0 bends 3, picks 4, turns at the edge, eats 2; 1 bends 0, goes on, has nothing to eat.
        is("dawns", o.dawns(1), 2);
        is("ears", o.ofCell(0, 0), 16);
        is("bag", o.ofPerson(0, 4), 2);
        is("hungry", o.ofPerson(0, 5), 0);
        is("at", o.ofPerson(0, 2), 0);
        is("way", o.ofPerson(0, 3), 1);
        is("hungry", o.ofPerson(1, 5), 1);
        is("at", o.ofPerson(1, 2), 1);
        is("dawn", o.count(3), 1);
        is("dawns", o.dawns(1), 4);
        is("at", o.ofPerson(0, 2), 1);
        is("lower: doesn't bend as low", o.lay(1, 1, 4), 1);
        // Nothing is picked in CELL 1; the BAG is eaten from.
        is("dawns", o.dawns(1), 2);
        is("ears", o.ofCell(1, 0), 20);
        is("at the last cell", o.change(1, 0, 4), 3);
        is("dawns", o.dawns(1), 4);
        is("turned", o.ofPerson(1, 3), -1);
        is("there still", o.ofPerson(1, 2), 4);
        for (int n : new int[] {0, 61, -1, MAX, MIN}) {
            is("dawns", o.dawns(n), BEYOND);
        }
        is("dawn", o.count(3), 4);
        is("dawns", o.dawns(60), 0);
        is("dawn", o.count(3), 64);

        // Who hasn't as many eats all there is.
        GleanedSorry few = with(50);
        is("change", few.change(0, 2, 5), 0);
        is("dawns", few.dawns(1), 2);
        is("hungry", few.ofPerson(0, 5), 0);
        is("dawns", few.dawns(1), 0);
        is("hungry", few.ofPerson(0, 5), 1);

        // By numbers: the first one leaves 2 of 5, which the second one takes; a BAG is held.
        GleanedSorry rich = with(0, 0);
        is("wrong", rich.wrong(0, 1, 4), 0);
        is("wrong", rich.wrong(1, 0, 20), 1);
        is("lay", rich.lay(0, 0, 5), 20);
        is("lay", rich.lay(0, 1, 2), 1);
        is("change", rich.change(1, 2, 9999), 0);
        is("dawns", rich.dawns(1), 1 + 9997);
        is("ears", rich.ofCell(0, 0), 0);

        // The other text sees what is left by those ahead, and the DAWN as it is.
        GleanedSorry seen = with(3, 4);
        is("text", text(seen, 0, "d+1"), 1);
        is("text", text(seen, 1, "e/2+b+m"), 1);
        is("dawns", seen.dawns(1), 14 + 6 - 4);
        is("ears", seen.ofCell(0, 0), 0);
        is("lay", seen.lay(0, 0, 100), 0);
        is("dawns", seen.dawns(1), 16 + 55 + 28 - 4);
        is("ears", seen.ofCell(0, 0), 17);
    }

    private static void promise17LastDawn() {
        Due.part("promise 17, the last dawn");
        GleanedSorry o = with(20);
        for (int i = 0; i < 166; i++) {
            is("dawns", o.dawns(60), 0);
        }
        is("state", o.dawns(40), STATE);
        is("beyond comes first", o.dawns(61), BEYOND);
        is("state", o.loose(40), STATE);
        is("beyond comes first", o.loose(41), BEYOND);
        is("dawn", o.count(3), 9960);
        is("loose", o.loose(1), 0);
        is("image", o.image(), 1);
        is("loose", o.loose(38), 0);
        is("dawn", o.count(3), 9999);
        is("restore", o.restore(), 9961);
        is("state", o.dawns(39), STATE);
        is("dawns", o.dawns(38), 0);
        is("dawn", o.count(3), 9999);
        is("state", o.dawns(1), STATE);
        is("state", o.loose(1), STATE);
        is("hungry", o.ofPerson(0, 5), 9999);
        promise19To27AtMostHungry(o);
    }

    /** One is HUNGRY 9999 at the last DAWN: no thought makes that more, and what is no more starves nobody. */
    private static void promise19To27AtMostHungry(GleanedSorry o) {
        Due.part("promises 19 to 27, hungry 9999");
        for (int n : new int[] {0, 1, 2, 60}) {
            is("held in thoughts, too", o.then(n, 0, 1), 9999);
        }
        is("upright", o.upright(0), NONE);
        is("adds", o.adds(0, 60), 0);
        is("pardons", o.pardons(20), 0);
        is("starves", o.starves(60), 0);
        is("one who came late", o.person(0, 0), 1);
        is("then", o.then(60, 1, 1), 60);
        is("upright", o.upright(0), 1);
        is("upright", o.upright(1), 1);
        is("starves", o.starves(60), 2);
        is("pardons", o.pardons(1), NONE);
        is("wrong", o.wrong(0, 1, 1), 0);
        is("odds", o.odds(0, 60, 0), 1);
        is("odds", o.odds(1, 60, 0), 0);
        is("text", text(o, 0, "d>9999"), 1);
        // Bends from the DAWN 10000 on, which is the second one thought of.
        is("then", o.then(1, 1, 1), 1);
        is("then", o.then(2, 1, 1), 1);
        is("ears from then on", o.then(11, 1, 1), 1);
        is("no ears are left", o.then(12, 1, 1), 2);
        is("hungry", o.ofPerson(0, 5), 9999);
        is("dawn", o.count(3), 9999);
    }

    private static void promise19JustBelowMostHungry() {
        Due.part("promise 19, hungry 9960");
        GleanedSorry o = with(0);
        for (int i = 0; i < 166; i++) {
            is("dawns", o.dawns(60), 0);
        }
        is("then", o.then(38, 0, 1), 9998);
        is("then", o.then(39, 0, 1), 9999);
        is("then", o.then(40, 0, 1), 9999);
        is("then", o.then(60, 0, 1), 9999);
        is("upright", o.upright(0), 1);
        is("starves", o.starves(60), 1);
        is("hungry", o.ofPerson(0, 5), 9960);
    }

    private static void promise18() {
        Due.part("promise 18");
        GleanedSorry none = new GleanedSorry();
        is("loose", none.loose(40), 0);
        is("no draws without people", none.count(10), 1);
        is("dawn", none.count(3), 40);
        for (int n : new int[] {0, 41, -1, MAX, MIN}) {
            is("loose", none.loose(n), BEYOND);
        }
        GleanedSorry o = with(0, 0, 0);
        int z = 1;
        int[] way = new int[3];
        int[] at = {0, 0, 0};
        for (int i = 0; i < 30; i++) {
            is("loose", o.loose(1), 0);
            z = z * 1103515245 + 12345;
            int who = (z >>> 8) % 3;
            z = z * 1103515245 + 12345;
            way[who] = (z >>> 8) % 3 - 1;
            for (int p = 0; p < 3; p++) {
                if (at[p] + way[p] < 0 || at[p] + way[p] > 4) {
                    way[p] = -way[p];
                } else {
                    at[p] += way[p];
                }
                is("at", o.ofPerson(p, 2), at[p]);
                is("way", o.ofPerson(p, 3), way[p]);
            }
            is("z", o.count(10), z);
        }
        is("hungry", o.count(6), 90);
        GleanedSorry one = with(0);
        is("loose", one.loose(3), 0);
        is("draws for one alone", one.count(10), drawn(6));
        GleanedSorry sorry = with(0, 20);
        is("wrong", sorry.wrong(0, 1, 4), 0);
        is("one picks 3, eats 2", sorry.loose(1), 1);
    }

    private static int drawn(int n) {
        int z = 1;
        for (int i = 0; i < n; i++) {
            z = z * 1103515245 + 12345;
        }
        return z;
    }

    private static void promise19() {
        Due.part("promise 19");
        GleanedSorry o = with(0, 0);
        is("wrong", o.wrong(0, 1, 4), 0);
        is("behind none", o.then(0, 0, 0), 0);
        is("bag", o.then(1, 0, 0), 1);
        is("bag", o.then(6, 0, 0), 6);
        is("19, 20 of 20 ears", o.then(7, 0, 0), 6);
        is("hungry", o.then(11, 0, 1), 1);
        is("hungry", o.then(60, 0, 1), 50);
        is("hungry", o.then(60, 1, 1), 60);
        int[][] wrong = {{-1, 0, 0}, {61, 0, 0}, {0, -1, 0}, {0, 2, 0}, {0, 0, -1}, {0, 0, 2}, {MAX, 0, 0}};
        for (int[] w : wrong) {
            is("then", o.then(w[0], w[1], w[2]), BEYOND);
        }
        is("only thought", o.count(3) + o.count(5) + o.count(6), 0);
        is("only thought", o.count(4), 100);
        GleanedSorry narrow = new GleanedSorry();
        is("field", narrow.field(2), 5);
        is("person", narrow.person(34, 0), 0);
        is("person", narrow.person(20, 0), 1);
        is("change", narrow.change(0, 1, 1), 0);
        is("wrong", narrow.wrong(0, 1, 3), 0);
        is("lay", narrow.lay(0, 0, 3), 20);
        is("lay", narrow.lay(1, 0, 5), 20);
        // Bends 2, picks 3 and 3, turns at CELL 1, picks 2 more there.
        is("bag", narrow.then(3, 0, 0), 2);
        is("bag", narrow.then(4, 0, 0), 0);
        is("hungry", narrow.then(9, 0, 1), 5);
    }

    private static void promise20() {
        Due.part("promise 20");
        GleanedSorry o = new GleanedSorry();
        is("nobody", o.upright(0), NONE);
        is("upright", o.upright(2), BEYOND);
        is("upright", o.upright(-1), BEYOND);
        o = with(10, 20, 30);
        is("change", o.change(0, 2, 7), 0);
        is("change", o.change(1, 2, 7), 0);
        is("change", o.change(2, 2, 6), 0);
        is("behind", o.upright(0), 4);
        is("who: two at once", o.upright(1), 1);
        is("change", o.change(1, 2, 120), 7);
        is("change", o.change(2, 2, 120), 6);
        is("change", o.change(0, 2, 60), 7);
        is("not by 60", o.upright(0), NONE);
        is("not by 60", o.upright(1), NONE);
        is("change", o.change(0, 2, 59), 60);
        is("by 60", o.upright(0), 60);
        is("by 60", o.upright(1), 0);
        is("hunger ahead doesn't count", o.dawns(60), 0);
        is("upright", o.upright(0), 1);
        is("change", o.change(0, 2, 9), 0);
        is("change", o.change(1, 2, 5), 0);
        is("change", o.change(2, 2, 9), 0);
        is("upright", o.upright(0), 3);
        is("upright", o.upright(1), 1);
        GleanedSorry six = with(10, 10, 10, 10, 10, 10);
        for (int i = 0; i < 6; i++) {
            is("change", six.change(i, 2, 60), 0);
        }
        is("not by 60", six.upright(0), NONE);
        is("change", six.change(5, 2, 58), 60);
        is("the last one", six.upright(1), 5);
        GleanedSorry sorry = with(0, 10);
        is("wrong", sorry.wrong(0, 1, 4), 0);
        is("change", sorry.change(1, 2, 50), 0);
        // 20 ears are eaten by twos.
        is("upright", sorry.upright(0), 11);
        is("upright", sorry.upright(1), 0);
    }

    private static void promise21() {
        Due.part("promise 21");
        GleanedSorry o = with(0, 20);
        is("low", o.lay(0, 1, 4), 1);
        is("bends 4 by 8", o.adds(0, 1), 8);
        is("none is asked", o.adds(0, 0), 0);
        is("wrong", o.wrong(0, 1, 3), 0);
        is("bends 4 by 3 and 5", o.adds(0, 4), 5);
        // 20 ears, 5 at a dawn: fed for 10 dawns, and no weight brings more.
        is("adds", o.adds(0, 10), 5);
        is("adds", o.adds(0, 11), NONE);
        is("a curate", o.adds(1, 1), NONE);
        is("a curate", o.adds(1, 0), 0);
        is("text", text(o, 0, "w=43"), 1);
        is("low", o.lay(0, 1, 1), 4);
        is("40 more", o.adds(0, 1), 40);
        is("text", text(o, 0, "w=44"), 1);
        is("not 41", o.adds(0, 1), NONE);
        int[][] wrong = {{-1, 0}, {2, 0}, {0, -1}, {0, 61}};
        for (int[] w : wrong) {
            is("adds", o.adds(w[0], w[1]), BEYOND);
        }
        is("only thought", o.ofPerson(0, 6), 3);
    }

    private static void promise22() {
        Due.part("promise 22");
        GleanedSorry o = with(0, 10);
        is("no wrongs", o.pardons(0), 0);
        is("no wrongs", o.pardons(1), NONE);
        is("pardons", o.pardons(21), BEYOND);
        is("pardons", o.pardons(20), NONE);
        is("pardons", o.pardons(-1), BEYOND);
        is("change", o.change(1, 2, 40), 0);
        // 0 must weigh 2 at least: it bends 1 then, picks 2 and eats them.
        int[] weights = {1, 1, 2, 1};
        for (int i = 0; i < 4; i++) {
            is("wrong", o.wrong(0, 1, weights[i]), i);
        }
        is("behind none all may be forgiven", o.pardons(0), 15);
        is("all but 2", o.pardons(1), 11);
        is("all but 2", o.pardons(10), 11);
        is("no ears are left", o.pardons(11), NONE);
        is("forgive", o.forgive(2), 3);
        is("the least of three sets", o.pardons(1), 1);
        is("forgive", o.forgive(0), 2);
        is("the empty set", o.pardons(1), 0);
        is("forgive", o.forgive(0), 1);
        is("not even none", o.pardons(1), NONE);
        is("only thought", o.count(2), 1);
        is("change", o.change(0, 2, 4), 0);
        is("all", o.pardons(2), 1);
        is("none", o.pardons(3), NONE);
    }

    private static void promise23() {
        Due.part("promise 23");
        GleanedSorry o = with(0, 0, 66, 20);
        is("nobody", new GleanedSorry().starves(60), 0);
        is("starves", o.starves(0), 0);
        is("starves", o.starves(-1), BEYOND);
        is("starves", o.starves(61), BEYOND);
        is("wrong", o.wrong(0, 1, 10), 0);
        is("wrong", o.wrong(1, 0, 10), 1);
        is("change", o.change(1, 2, 4), 0);
        // 1 has enough for two dawns; 2 has a past; 3 walks upright.
        is("starves", o.starves(1), 9);
        is("starves", o.starves(2), 9);
        // 2 has picked 4, then nothing: the others' wrongs stay, and they have emptied the CELL.
        is("starves", o.starves(3), 15);
        is("starves", o.starves(60), 15);
        is("only thought", o.count(2), 2);
        GleanedSorry six = with(10, 10, 10, 10, 10, 10);
        for (int i = 0; i < 6; i++) {
            is("change", six.change(i, 2, i == 3 ? 0 : 9), 0);
        }
        is("wrong", six.wrong(3, 0, 6), 0);
        is("wrong", six.wrong(3, 1, 6), 1);
        is("both are forgiven", six.starves(9), 8);
        is("all six", six.starves(10), 63);
        is("fed by both", six.then(5, 3, 1), 0);
    }

    private static void promise24() {
        Due.part("promise 24");
        GleanedSorry o = with(0, 0);
        is("wrong", o.wrong(0, 1, 4), 0);
        is("behind none the least", o.best(0, 0, 0), 0);
        is("behind none", o.best(0, 0, 1), 0);
        is("all alike", o.best(0, 1, 0), 0);
        is("low", o.lay(0, 1, 3), 1);
        is("ears", o.lay(1, 0, 2), 20);
        is("ears", o.lay(2, 0, 5), 20);
        is("cell", o.best(0, 1, 0), 2);
        is("bag", o.best(0, 1, 1), 1);
        is("cell", o.best(0, 3, 0), 3);
        is("bag", o.best(0, 3, 1), 3);
        is("way", o.change(0, 1, 1), 0);
        // From 2 on: 3 there, 3 in CELL 3, 3 in CELL 4.
        is("cell", o.best(0, 3, 0), 2);
        is("change", o.change(0, 2, 9998), 0);
        is("held", o.best(0, 1, 1), 9997);
        int[][] wrong = {{-1, 0, 0}, {2, 0, 0}, {0, -1, 0}, {0, 61, 0}, {0, 0, -1}, {0, 0, 2}};
        for (int[] w : wrong) {
            is("best", o.best(w[0], w[1], w[2]), BEYOND);
        }
        is("only thought", o.ofPerson(0, 2), 0);
        is("best", o.best(0, 60, 0), 0);
    }

    private static void promise25() {
        Due.part("promise 25");
        GleanedSorry o = with(0, 69);
        int[][] wrong = {{-1, 0, 0}, {4, 0, 0}, {0, -1, 0}, {0, 2, 0}, {0, 0, -1}, {0, 0, 2}};
        for (int[] w : wrong) {
            is("brings", o.brings(w[0], w[1], w[2]), BEYOND);
        }
        is("missing", o.brings(0, 0, 0), NONE);
        is("missing", o.brings(0, 0, 1), NONE);
        is("sheet", o.sheet(0, 8, 0), 1);
        is("no numbers", o.brings(0, 0, 0), 100);
        is("no numbers", o.brings(0, 0, 1), 0);
        is("sheet", o.sheet(0, 16, 2), 1);
        // Twice nothing: weighs 0 or 1, bends 0. (Half of what weighs, 1 and more, picks 2 and more.)
        is("nothing", o.brings(0, 0, 0), 2);
        is("nothing", o.brings(0, 0, 1), 0);
        is("put", o.put(0, 0, 4), 1);
        is("put", o.put(0, 1, 4), 1);
        is("bends 3", o.brings(0, 0, 0), 2);
        is("bends 3", o.brings(0, 0, 1), 6);
        is("put", o.put(0, 1, 5), 1);
        is("none", o.brings(0, 0, 0), 0);
        is("none", o.brings(0, 0, 1), NONE);
        is("put", o.put(0, 0, 10), 1);
        is("put", o.put(0, 1, 5), 1);
        // Bends 9 from 18 on; the other one, whose past weighs 9, bends 4 and leaves 5 at the next DAWN.
        is("bends 9", o.brings(0, 0, 0), 82);
        is("bends 9", o.brings(0, 0, 1), 18);
        // What weighs on one with a past is told as a whole.
        is("sheet", o.sheet(1, 32, 1), 1);
        is("put", o.put(1, 0, 1), 1);
        is("a past", o.brings(1, 1, 0), 0);
        is("put", o.put(1, 0, 2), 1);
        is("a past", o.brings(1, 1, 0), 2);
        is("a past", o.brings(1, 1, 1), 2);
        is("only thought", o.count(4), 100);
        // The wrongs of those ahead leave less to pick: 10 of 20, then 10 of 10.
        GleanedSorry late = with(0, 0);
        is("wrong", late.wrong(0, 1, 20), 0);
        is("wrong", late.wrong(1, 0, 20), 1);
        is("sheet", late.sheet(0, 8, 2), 1);
        is("put", late.put(0, 0, 6), 1);
        is("put", late.put(0, 1, 0), 1);
        is("brings", late.brings(0, 1, 0), 2);
        is("brings", late.brings(0, 1, 1), 10);
    }

    private static void promise26() {
        Due.part("promise 26");
        is("nobody", new GleanedSorry().shares(1, -1), 0);
        is("nobody", new GleanedSorry().shares(1, 0), BEYOND);
        GleanedSorry o = with(0, 10, 50, 67);
        is("change", o.change(3, 2, 17), 0);
        is("left", o.shares(1, -1), 8);
        int[][] gets = {{2, 1, 3, 3}, {4, 2, 6, 5}, {16, 1, 0, 0}};
        int[] ns = {1, 2, 8};
        for (int i = 0; i < ns.length; i++) {
            for (int p = 0; p < 4; p++) {
                is("gets " + ns[i], o.shares(ns[i], p), gets[i][p]);
            }
        }
        is("left", o.shares(2, -1), 0);
        is("left", o.shares(30, -1), 0);
        int[][] wrong = {{0, 0}, {31, 0}, {-1, 0}, {1, -2}, {1, 4}, {MAX, 0}};
        for (int[] w : wrong) {
            is("shares", o.shares(w[0], w[1]), BEYOND);
        }
        is("only thought", o.ofPerson(3, 4), 17);
    }

    private static void promise27() {
        Due.part("promise 27");
        GleanedSorry o = with(0, 10);
        is("no wrongs", o.odds(0, 1, 0), STATE);
        is("beyond comes first", o.odds(2, 1, 0), BEYOND);
        is("wrong", o.wrong(0, 1, 2), 0);
        is("wrong", o.wrong(1, 0, 20), 1);
        is("wrong", o.wrong(1, 0, 20), 2);
        is("wrong", o.wrong(1, 0, 20), 3);
        is("3 by 4", o.odds(0, 1, 0), 3);
        is("3 by 4", o.odds(0, 1, 1), 4);
        is("sure", o.odds(0, 0, 0), 1);
        is("sure", o.odds(0, 0, 1), 1);
        is("never", o.odds(0, 40, 0), 0);
        is("never", o.odds(0, 40, 1), 1);
        is("forgive", o.forgive(3), 3);
        is("wrong", o.wrong(1, 0, 1), 3);
        is("wrong", o.wrong(0, 1, 1), 4);
        is("wrong", o.wrong(0, 1, 1), 5);
        // 0 weighs 4: the forgiving of any leaves 2 at least.
        is("sure", o.odds(0, 1, 0), 1);
        is("sure", o.odds(0, 1, 1), 1);
        is("forgive", o.forgive(5), 5);
        is("forgive", o.forgive(4), 4);
        is("forgive", o.forgive(3), 3);
        is("forgive", o.forgive(2), 2);
        is("1 by 2", o.odds(0, 1, 0), 1);
        is("1 by 2", o.odds(0, 1, 1), 2);
        is("wrong", o.wrong(0, 1, 1), 2);
        is("wrong", o.wrong(1, 0, 1), 3);
        // 0 weighs 3: 2 forgiven starve it, 1 doesn't; in lowest terms.
        is("3 by 4", o.odds(0, 1, 0), 3);
        is("text", text(o, 0, "w>2"), 1);
        is("2 by 4", o.odds(0, 1, 0), 1);
        is("2 by 4", o.odds(0, 1, 1), 2);
        int[][] wrong = {{-1, 0, 0}, {2, 0, 0}, {0, -1, 0}, {0, 61, 0}, {0, 0, -1}, {0, 0, 2}};
        for (int[] w : wrong) {
            is("odds", o.odds(w[0], w[1], w[2]), BEYOND);
        }
        is("only thought", o.count(2), 4);
    }

    private static void promise28() {
        Due.part("promise 28");
        GleanedSorry o = new GleanedSorry();
        is("seed", o.seed(MIN), 1);
        is("seed", o.seed(-1000000001), MIN);
        is("no error", o.seed(7), -1000000001);
        is("told", o.told(1), 0);
        is("z", o.count(10), 7);
    }

    private static void voice(GleanedSorry o, int person, int act, int x, int want, int... bodies) {
        is("voice " + act, o.voice(person, act, x), want);
        is("bodies", o.count(9), bodies.length);
        for (int i = 0; i < bodies.length; i++) {
            is("body " + i, o.trace(i), bodies[i]);
        }
        is("no more", o.trace(bodies.length), NONE);
    }

    private static void promise29() {
        Due.part("promise 29");
        GleanedSorry o = with(5, 5, 5);
        voice(o, 2, 0, 7, 9, 10);
        voice(o, 2, 1, 7, 18, 11, 10);
        voice(o, 2, 2, 7, 2, 12);
        voice(o, 2, 3, 7, 18 ^ 2, 13, 11, 10, 12);
        o.become(2, 15);
        voice(o, 2, 0, 7, 27, 20, 10);
        voice(o, 2, 3, 7, 54 ^ 2, 13, 11, 20, 10, 12);
        o.become(2, 25);
        voice(o, 2, 1, 7, 22, 30, 11, 10, 12);
        voice(o, 2, 3, 7, 22 ^ 2, 13, 30, 11, 10, 12, 12);
        o.become(2, 35);
        voice(o, 2, 2, 7, -2, 40, 12);
        voice(o, 2, 3, 7, 18 ^ -2, 13, 11, 10, 40, 12);
        o.become(2, 45);
        voice(o, 2, 3, 7, (54 ^ 2) - 12, 50, 13, 11, 20, 10, 12, 20, 10);
        o.become(2, 55);
        voice(o, 2, 1, 7, 24, 60, 30, 11, 10, 12);
        o.become(2, 65);
        voice(o, 2, 2, 7, -2 ^ 2, 70, 40, 12);
        voice(o, 2, 3, 7, 18 - (18 ^ (-2 ^ 2)), 71, 11, 10, 13, 11, 10, 70, 40, 12);
        voice(o, 0, 0, MAX, MAX, 10);
        voice(o, 1, 0, MAX, MIN, 10);
        voice(o, 0, 0, -1000000001, -1000000001, 10);
        is("told", o.told(1), 0);
        int[][] wrong = {{-1, 0}, {3, 0}, {0, -1}, {0, 4}};
        for (int[] w : wrong) {
            is("voice", o.voice(w[0], w[1], 0), BEYOND);
        }
        is("the trace stays", o.trace(0), 10);
    }

    private static void promise30() {
        Due.part("promise 30");
        GleanedSorry o = with(30);
        for (int i : new int[] {0, -1, 40, MAX, MIN}) {
            is("trace", o.trace(i), NONE);
        }
        is("voice", o.voice(0, 2, 0), 0);
        is("trace", o.trace(0), 40);
        is("trace", o.trace(1), 12);
        is("trace", o.trace(2), NONE);
        is("trace", o.trace(-1), NONE);
        is("told", o.told(2), 7);
    }

    private static void promise31() {
        Due.part("promise 31");
        GleanedSorry o = new GleanedSorry();
        for (int bits : new int[] {8, 16, 32}) {
            is("sheet", o.sheet(0, bits, 40), 1);
            is("put", o.put(0, 39, 1), 1);
            is("put", o.put(0, 40, 1), BEYOND);
            is("sheet", o.sheet(0, bits, 41), BEYOND);
            is("sheet", o.sheet(0, bits, MAX), BEYOND);
            is("sheet", o.sheet(0, bits, -1), STATE);
            is("sheet", o.sheet(0, bits, MIN), STATE);
            is("sheet", o.sheet(4, bits, -1), BEYOND);
            is("sheet", o.sheet(-1, bits, 1), BEYOND);
            is("it stays", o.put(0, 39, 1), 1);
        }
        for (int bits : new int[] {-8, 1, 7, 9, 15, 24, 31, 33, 64}) {
            is("sheet", o.sheet(0, bits, 1), BEYOND);
            is("bits come first", o.sheet(0, bits, -1), BEYOND);
        }
        is("sheet", o.sheet(0, 8, 3), 1);
        is("put", o.put(0, 0, 5), 1);
        is("sheet", o.sheet(0, 8, 3), 1);
        is("all 0", o.ears(0), 3);
        is("all 0", o.ofCell(0, 0), 0);
        is("sheet", o.sheet(0, 0, -5), 1);
        is("missing", o.put(0, 0, 0), NONE);
        is("n doesn't matter", o.sheet(0, 0, 99), 1);
        is("n doesn't matter", o.sheet(4, 0, 99), BEYOND);
        is("no numbers", o.sheet(3, 16, 0), 1);
        is("no numbers", o.put(3, 0, 0), BEYOND);
    }

    private static void promise32() {
        Due.part("promise 32");
        GleanedSorry o = with(0, 0, 0);
        is("put", o.put(-1, 0, 0), BEYOND);
        is("put", o.put(4, 0, 0), BEYOND);
        is("put", o.put(0, 0, 0), NONE);
        is("missing comes first", o.put(0, -1, 0), NONE);
        is("change", o.change(0, 2, 100), 0);
        int[][] kept = {{8, 100 + 256, -1}, {8, 100 - 256, -1}, {8, 100 + 65536, -1}, {16, 100 + 256, 0},
            {16, 100 + 65536, -1}, {16, 100 - 65536, -1}, {32, 100 + 65536, 0}, {32, 100, -1}};
        for (int[] k : kept) {
            is("sheet", o.sheet(0, k[0], 3), 1);
            is("put", o.put(0, 0, k[1]), 1);
            is("lowest bits of " + k[1], o.judge(0), k[2]);
        }
        is("put", o.put(0, 3, 0), BEYOND);
        is("put", o.put(0, -1, 0), BEYOND);
        is("sheet", o.sheet(1, 8, 2), 1);
        is("put", o.put(1, 1, 128), 1);
        is("a sign in 8 bits", o.ears(1), 1);
        is("sheet", o.sheet(1, 16, 2), 1);
        is("put", o.put(1, 1, 128), 1);
        is("none in 16", o.ears(1), 2);
    }

    private static void numbers(GleanedSorry o, int sheet, int bits, int... row) {
        is("sheet", o.sheet(sheet, bits, row.length), 1);
        for (int i = 0; i < row.length; i++) {
            is("put", o.put(sheet, i, row[i]), 1);
        }
    }

    private static void laid(GleanedSorry o, int sheet, int... row) {
        is("ears", o.ears(sheet), row.length);
        for (int i = 0; i < row.length; i++) {
            is("number " + i, o.ofCell(i, 0), row[i]);
        }
    }

    private static void promise33() {
        Due.part("promise 33");
        GleanedSorry o = new GleanedSorry();
        numbers(o, 0, 16, 1, 2, 3, 4, 5);
        is("up, onto itself", o.move(0, 0, 0, 1, 4), 4);
        laid(o, 0, 1, 1, 2, 3, 4);
        is("down, onto itself", o.move(0, 2, 0, 0, 3), 3);
        laid(o, 0, 2, 3, 4, 3, 4);
        numbers(o, 1, 16, 7, 8);
        is("to another", o.move(0, 3, 1, 0, 2), 2);
        laid(o, 1, 3, 4);
        is("none", o.move(0, 5, 1, 2, 0), 0);
        int[][] wrong = {{0, 0, 1, 0, 3}, {0, 4, 1, 0, 2}, {0, 0, 1, 1, 2}, {0, -1, 1, 0, 1}, {0, 0, 1, -1, 1},
            {0, 0, 1, 0, -1}, {0, 6, 1, 0, 0}, {0, 0, 1, 3, 0}, {0, MAX, 1, 0, 1}, {0, 1, 1, MAX, MAX},
            {0, 1, 1, 1, MIN}, {-1, 0, 1, 0, 1}, {0, 0, 4, 0, 1}, {4, 0, 2, 0, 1}};
        for (int[] w : wrong) {
            is("move", o.move(w[0], w[1], w[2], w[3], w[4]), BEYOND);
        }
        laid(o, 0, 2, 3, 4, 3, 4);
        laid(o, 1, 3, 4);
        is("missing", o.move(0, 0, 2, 0, 1), NONE);
        is("missing", o.move(2, 0, 0, 0, 1), NONE);
        is("missing comes first", o.move(2, -1, 0, 0, 1), NONE);
        numbers(o, 2, 8, 1);
        is("unlike", o.move(0, 0, 2, 0, 1), KIND);
        is("unlike comes first", o.move(0, 0, 2, 0, -1), KIND);
    }

    private static void promise34() {
        Due.part("promise 34");
        GleanedSorry o = new GleanedSorry();
        is("ears", o.ears(-1), BEYOND);
        is("ears", o.ears(4), BEYOND);
        is("ears", o.ears(0), NONE);
        numbers(o, 0, 16, 0, 999, 5);
        laid(o, 0, 0, 999, 5);
        is("the others stay", o.ofCell(3, 0), 20);
        numbers(o, 0, 16, 1, 1000, 2);
        is("the first that is too many", o.ears(0), 1);
        is("ears", o.ofCell(0, 0), 1);
        is("ears", o.ofCell(1, 0), 999);
        numbers(o, 0, 32, 8, 9, -1);
        is("the first below 0", o.ears(0), 2);
        is("ears", o.ofCell(2, 0), 5);
        numbers(o, 0, 8, 1, 2, 3, 4, 5, 6);
        is("no more cells", o.ears(0), 5);
        numbers(o, 0, 8);
        is("no numbers", o.ears(0), 0);
        is("no error", o.told(1) + o.told(2), 3);
    }

    private static void promise35() {
        Due.part("promise 35");
        GleanedSorry o = with(0, 0, 0);
        is("judge", o.judge(-1), BEYOND);
        is("judge", o.judge(4), BEYOND);
        is("judge", o.judge(0), NONE);
        is("change", o.change(1, 2, 300), 0);
        numbers(o, 0, 16, 0, 300, 0);
        is("all are", o.judge(0), -1);
        numbers(o, 0, 16, 0, 301, 1);
        is("the first", o.judge(0), 1);
        numbers(o, 0, 16, 0, 300);
        is("one lacks", o.judge(0), 2);
        numbers(o, 0, 16);
        is("one lacks", o.judge(0), 0);
        numbers(o, 0, 16, 0, 300, 0, 0);
        is("one is too many", o.judge(0), 3);
        numbers(o, 0, 16, 0, 300, 1, 0);
        is("the first", o.judge(0), 2);
        numbers(o, 0, 8, 0, 300, 0);
        is("300 is no number of 8 bits", o.judge(0), 1);
        GleanedSorry nobody = new GleanedSorry();
        numbers(nobody, 0, 8);
        is("nobody, nothing", nobody.judge(0), -1);
        GleanedSorry six = with(0, 0, 0, 0, 0, 0);
        numbers(six, 0, 8, 0, 0, 0, 0, 0, 0);
        is("all six are", six.judge(0), -1);
        numbers(six, 0, 8, 0, 0, 0, 0, 0, 0, 0);
        is("seven are too many", six.judge(0), 6);
    }

    private static void promise36() {
        Due.part("promise 36");
        GleanedSorry o = new GleanedSorry();
        is("image", o.image(), 1);
        is("dawns", o.dawns(3), 0);
        is("image", o.image(), 2);
        is("dawns", o.dawns(3), 0);
        is("in place of the one ahead", o.restore(), 3);
        is("how often is not kept", o.image(), 3);
        is("restore", o.restore(), 3);
        is("image", o.image(), 4);
    }

    private static void promise37() {
        Due.part("promise 37");
        GleanedSorry o = new GleanedSorry();
        is("restore", o.restore(), NONE);
        is("field", o.field(3), 5);
        is("person", o.person(31, 1), 0);
        is("person", o.person(12, 2), 1);
        is("change", o.change(0, 1, 1), 0);
        is("change", o.change(0, 2, 60), 0);
        is("wrong", o.wrong(0, 1, 8), 0);
        is("text", text(o, 0, "w"), 1);
        is("seed", o.seed(77), 1);
        is("tell", o.tell(5), 1);
        is("dawns", o.dawns(2), 60 + 10 - 2 + 10 - 2);
        feed(o, "w+");
        is("sheet", o.sheet(0, 8, 2), 1);
        is("image", o.image(), 1);

        is("forgive", o.forgive(0), 0);
        is("person", o.person(0, 0), 2);
        is("become", o.become(0, 69), 3);
        is("lay", o.lay(2, 0, 900), 10);
        is("lay", o.lay(2, 1, 9), 1);
        is("feed", o.feed('1', 1), 3);
        is("text", o.text(0), 1);
        is("text", text(o, 1, "7"), 1);
        o.loose(5);
        is("check", o.check(), 1);
        is("sheet", o.sheet(0, 8, 7), 1);
        is("voice", o.voice(0, 0, 3), 3);
        is("told", o.told(2), 1);

        for (int again = 0; again < 2; again++) {
            is("restore", o.restore(), 2);
            int[] counts = {3, 2, 1, 2, 40, 76, 2, 2, 1, 1, 77};
            for (int i = 0; i < counts.length; i++) {
                is("count " + i, o.count(i), counts[i]);
            }
            int[] first = {3, 1, 2, -1, 76, 0, 8, 9, 2};
            for (int i = 0; i < first.length; i++) {
                is("person's " + i, o.ofPerson(0, i), first[i]);
            }
            is("hungry", o.ofPerson(1, 5), 2);
            is("ears", o.ofCell(2, 0), 10);
            is("low", o.ofCell(2, 1), 1);
            is("wrong", o.ofWrong(0, 2), 8);
            is("law", o.law(0, 5, 0, 0), 5);
            is("law without a text", o.law(1, 5, 0, 0), 6);
            is("the trace is not kept", o.trace(0), 10);
            is("the sheet is not kept", o.put(0, 6, 0), 1);
            is("told is not kept", o.told(2), 1);
            is("the tape", o.feed('2', 1), 3);
            is("text", o.text(0), 1);
            is("w+2", o.law(0, 5, 0, 0), 7);
            is("the numbers that wait", o.check(), 1);
        }
    }

    private static void promise37Anew() {
        Due.part("promise 37, people anew");
        GleanedSorry o = new GleanedSorry();
        is("image", o.image(), 1);
        is("person", o.person(25, 0), 0);
        is("change", o.change(0, 1, 1), 0);
        is("dawns", o.dawns(1), 0);
        is("change", o.change(0, 2, 9), 0);
        is("restore", o.restore(), 0);
        is("nobody", o.ofPerson(0, 0), BEYOND);
        is("cells may change", o.field(3), 5);
        is("person", o.person(11, 2), 0);
        int[] first = {1, 1, 2, 0, 0, 0, 0, 0, 1};
        for (int i = 0; i < first.length; i++) {
            is("as at first " + i, o.ofPerson(0, i), first[i]);
        }
        is("restore", o.restore(), 0);
        is("cells", o.count(0), 5);
    }

    private static void promise38() {
        Due.part("promise 38");
        GleanedSorry o = new GleanedSorry();
        for (int i = 1; i <= 20; i++) {
            is("tell", o.tell(i % 2 == 0 ? MIN : MAX), i);
        }
        is("tell", o.tell(0), FULL);
        is("wait", o.count(8), 20);
        is("check", o.check(), 1);
        is("tell", o.tell(0), 1);
    }

    private static void promise39() {
        Due.part("promise 39");
        GleanedSorry o = with(0);
        is("none wait", o.check(), 0);
        is("change", o.change(0, 2, 5), 0);
        int[] bags = {3, 1, 0, 0};
        for (int i = 0; i < bags.length; i++) {
            is("tell", o.tell(bags[i]), i + 1);
        }
        is("check", o.check(), 0);
        is("none wait then", o.count(8), 0);
        for (int off = 0; off < bags.length; off++) {
            for (int i = 0; i < bags.length; i++) {
                is("tell", o.tell(bags[i] + (i >= off ? 1 : 0)), i + 1);
            }
            is("check", o.check(), 1 + off);
            is("none wait then", o.count(8), 0);
        }
        is("only thought", o.count(5), 5);
        is("only thought", o.count(3), 0);
        for (int i = 0; i < 20; i++) {
            is("tell", o.tell(i < 2 ? bags[i] : i == 19 ? 1 : 0), i + 1);
        }
        is("the last of 20", o.check(), 20);
        for (int i = 0; i < 20; i++) {
            is("tell", o.tell(i < 2 ? bags[i] : 0), i + 1);
        }
        is("all 20", o.check(), 0);
        GleanedSorry six = with(0, 20, 20, 20, 20, 20);
        is("wrong", six.wrong(0, 1, 4), 0);
        is("tell", six.tell(1), 1);
        is("tell", six.tell(2), 2);
        is("check", six.check(), 0);
    }

    private static void promise40() {
        Due.part("promise 40");
        GleanedSorry o = with(0, 10, 20);
        is("wrong", o.wrong(0, 1, 8), 0);
        is("change", o.change(2, 2, 3), 0);
        is("dawns", o.dawns(2), 6);
        feed(o, "abc");
        is("tell", o.tell(1), 1);
        is("tell", o.tell(1), 2);
        is("voice", o.voice(0, 3, 0), 0);
        is("seed", o.seed(-1000000002), 1);
        int[] counts = {5, 3, 1, 2, 90, 6, 3, 3, 2, 4, -1000000002};
        for (int i = 0; i < counts.length; i++) {
            is("count " + i, o.count(i), counts[i]);
        }
        is("count", o.count(-1), BEYOND);
        is("count", o.count(11), BEYOND);
        is("count", o.count(MIN), BEYOND);
        is("told", o.told(2), 0);
        is("told", o.told(1), 3);
    }

    private static void promise41() {
        Due.part("promise 41");
        GleanedSorry o = with(0);
        is("told", o.told(0), BEYOND);
        is("told", o.told(6), BEYOND);
        is("told", o.told(-1), BEYOND);
        is("told", o.told(MIN), BEYOND);
        is("told", o.told(1), 4);
        is("state", o.field(3), STATE);
        is("kind", o.as(0, 1), KIND);
        is("kind", o.as(0, 2), KIND);
        is("none", o.restore(), NONE);
        is("none", o.trace(0), NONE);
        is("none", o.judge(0), NONE);
        for (int i = 0; i < 25; i++) {
            o.tell(0);
        }
        int[] told = {4, 3, 1, 5, 2};
        for (int k = 1; k <= 5; k++) {
            is("told", o.told(k), told[k - 1]);
        }
        is("image", o.image(), 1);
        is("beyond", o.field(0), BEYOND);
        is("restore", o.restore(), 0);
        is("told is not kept", o.told(1), 5);
    }
}
