/** The boundary cases of point 2 of 'Terms', and of promises 14 to 16: THE TAPE, TEXTS, FAULTS, the USES. */
public final class TextEdgeTest {
    private static final int BEYOND = Ask.BEYOND;
    private static final int FULL = Ask.FULL;
    private static final int MAX = Ask.MAX;
    private static final int MIN = Ask.MIN;
    private static final String SIGNS = "|&<=>+-*/%";
    private static final String DIGITS = "0123456789";

    private TextEdgeTest() {
    }

    public static void main(String[] args) {
        tapeAtMostFifty();
        feedBytes();
        bytesThatGoOn();
        digits();
        opened();
        compared();
        endsTooEarly();
        fiftyBytes();
        wraps();
        byNothing();
        trueOrNot();
        cut();
        held();
        withoutText();
        names();
        textStays();
        Due.end();
    }

    private static void tapeAtMostFifty() {
        Due.part("THE TAPE (bytes, at most 50)");
        for (int n = 1; n <= 8; n++) {
            Ask o = new Ask().due(0, "count", 7);
            int there = 0;
            while (there + n <= 50) {
                there += n;
                o.due(there, "feed", -1L, n).due(there, "count", 7);
            }
            o.due(FULL, "feed", -1L, n).due(there, "count", 7);
            for (int more = 1; there < 50; more = 1) {
                there += more;
                o.due(there, "feed", 0L, more);
            }
            o.due(FULL, "feed", 0L, 1).due(FULL, "feed", 0L, 8).due(50, "count", 7).due(-10, "text", 0);
            o.due(0, "count", 7).due(n, "feed", 0L, n);
        }
        Due.part("feed: BEYOND ahead of FULL");
        Ask full = new Ask().makeTimes(6, "feed", 0, 8).make("feed", 0, 2);
        for (int n : new int[] {0, 9, -1, MAX, MIN}) {
            full.due(BEYOND, "feed", 0, n);
        }
        full.due(50, "count", 7);
    }

    private static void feedBytes() {
        Due.part("the n lowest bytes (1 .. 8), the lowest first");
        String row = "12+34-56";
        int[] worth = {1, 12, -1, 15, 46, -1, 41, -10};
        long word = 0;
        for (int i = 7; i >= 0; i--) {
            word = word << 8 | row.charAt(i);
        }
        for (int n = 1; n <= 8; n++) {
            Ask o = new Ask().due(n, "feed", word, n);
            if (worth[n - 1] == -1) {
                o.due(-10 - n, "text", 1);
            } else {
                o.due(1, "text", 1).due(Math.max(0, worth[n - 1]), "law", 1, 0, 0, 0);
            }
        }
        Due.part("bytes above the n lowest don't matter, nor does a sign");
        for (long above : new long[] {0, -1, Long.MIN_VALUE, Long.MAX_VALUE}) {
            new Ask().due(1, "feed", above << 8 | '7', 1).due(1, "text", 1).due(7, "law", 1, 0, 0, 0);
        }
        new Ask().due(8, "feed", Long.MIN_VALUE | 0x2b312b312b3137L, 8).due(-17, "text", 1);
    }

    /** Each of the 256 bytes behind a beginning: it goes on, or it is the FAULT. */
    private static void goesOn(int use, String ahead, String which) {
        Ask o = new Ask();
        for (int b = 0; b < 256; b++) {
            if (b == 128) {
                o = new Ask();
            }
            o.feed(ahead).make("feed", b, 1);
            boolean right = b != 0 && which.indexOf((char) b) >= 0;
            int got = o.call("text", use);
            // One that goes on is a TEXT, or ends too early.
            int want = right && got == 1 ? 1 : -10 - ahead.length() - (right ? 1 : 0);
            Due.is("text of " + ahead + " and byte " + b, got, want);
        }
    }

    private static void bytesThatGoOn() {
        Due.part("FAULT: the first byte with which no TEXT goes on; no blanks");
        for (int use = 0; use <= 1; use++) {
            String names = use == 0 ? "wmd" : "bem";
            String begins = DIGITS + names + "!(";
            for (String ahead : new String[] {"", "!", "(", "m+", "m-", "m*", "m/", "m%", "m<", "m=", "m>", "m|", "m&",
                "(m)+", "!!!!", "((((", "1<2|", "1<2&"}) {
                goesOn(use, ahead, begins);
            }
            goesOn(use, "!!!!!", DIGITS + names);
            goesOn(use, "(((((", DIGITS + names);
            goesOn(use, "m", SIGNS);
            goesOn(use, "!m", SIGNS);
            goesOn(use, "(m)", SIGNS);
            goesOn(use, "(m", SIGNS + ")");
            goesOn(use, "7", SIGNS + DIGITS);
            goesOn(use, "777", SIGNS + DIGITS);
            goesOn(use, "7777", SIGNS);
            goesOn(use, "(7777", SIGNS + ")");
            goesOn(use, "1<2", "|&+-*/%" + DIGITS);
            goesOn(use, "(1=m", "|&+-*/%)");
        }
    }

    private static void digits() {
        Due.part("a NUMBER of 1 to 4 digits");
        Ask o = new Ask();
        o.text(1, 1, "0").text(1, 1, "00").text(1, 1, "000").text(1, 1, "0000").text(-14, 1, "00000");
        o.text(1, 1, "9").due(9, "law", 1, 0, 0, 0).text(1, 1, "99").due(99, "law", 1, 0, 0, 0);
        o.text(1, 1, "0099").due(99, "law", 1, 0, 0, 0).text(1, 1, "9999-9901").due(98, "law", 1, 0, 0, 0);
        for (int n = 0; n <= 99; n++) {
            worth(n, "" + n, 101, 102, 103);
        }
        o.text(-14, 1, "99999").text(-14, 1, "12345+1").text(-16, 1, "1+12345").text(1, 1, "1+1234");
        o.text(-10, 1, "-1").text(-10, 1, "+1").text(-12, 1, "1+").text(-12, 1, "1+-1");
    }

    private static void opened() {
        Due.part("at most 5 of ! and ( are open at once");
        String[] five = {"!!!!!1", "(((((1)))))", "!(!(!1))", "(!(!(1)))", "!!!((1))", "((!!!1))",
            "!!!!!1+!!!!!1", "(((((1)))))+(((((1)))))", "((((!1+!1))))", "!!!!(1)*!!!!(1)", "((((1)+(1))))",
            "((((1)+((1)))))",
            "(((((1<1)))))", "!(1)+!(1)+!(1)+!(1)+!(1)+!(1)"};
        Ask o = new Ask();
        for (String s : five) {
            o.text(1, 0, s);
        }
        Object[][] six = {{"!!!!!!1", 5}, {"((((((1))))))", 5}, {"!!!!!(1)", 5}, {"(((((!1)))))", 5},
            {"!(!(!(1)))", 5}, {"(!(!(!1)))", 5}, {"!!!!!1+!!!!!!1", 12}, {"(((((1)))))+((((((", 17},
            {"((((!1+!!1))))", 8},
            {"((((1)+(((1))))))", 9}, {"!!!!(1+!(1))", 7}};
        for (Object[] s : six) {
            o.text(-10 - (Integer) s[1], 0, (String) s[0]);
        }
    }

    private static void compared() {
        Due.part("S, or S < S, S = S, S > S");
        Ask o = new Ask();
        for (String sign : new String[] {"<", "=", ">"}) {
            o.text(1, 0, "w" + sign + "m").text(1, 0, "(w" + sign + "m)" + sign + "d").text(-10, 0, sign + "w");
            for (String other : new String[] {"<", "=", ">"}) {
                o.text(-13, 0, "w" + sign + "m" + other + "d").text(-12, 0, "w" + sign + other + "d");
                o.text(1, 0, "w" + sign + "m&w" + other + "d").text(1, 0, "w" + sign + "m|w" + other + "d");
            }
        }
    }

    private static void endsTooEarly() {
        Due.part("FAULT: how many there are, if it ends too early");
        Ask o = new Ask().due(-10, "text", 0).due(-10, "text", 1);
        String[] early = {"!", "(", "(w", "w+", "w|", "w&", "w<", "w=", "w>", "w-", "w*", "w/", "w%", "((w)", "!(w",
            "!!!!!", "(((((", "(((((w))))", "(w<m", "w+(", "w+!", "1<", "(1)&"};
        for (String s : early) {
            o.text(-10 - s.length(), 0, s);
        }
        o.due(0, "told", 1).due(0, "told", 2);
    }

    private static void fiftyBytes() {
        Due.part("a TEXT of 50 bytes, and FAULTS at its end");
        String ones = "1+1+1+1+1+1+1+1+1+1+1+1+1+1+1+1+1+1+1+1+1+1+1+1+";
        Ask o = new Ask().text(1, 1, ones + "11").due(35, "law", 1, 0, 0, 0).text(1, 1, ones + "!b");
        o.due(24, "law", 1, 1, 0, 0).due(25, "law", 1, 0, 0, 0).text(-60, 1, ones + "1+").text(-59, 1, ones + "1)");
        o.text(-60, 1, ones + "(1").text(-58, 1, ones + ")1").due(25, "law", 1, 0, 0, 0);
        o.text(1, 1, "(((((1234*1234%1000)))))+1*1+1*1+1*1+1*1+1*1+1*1+1").due(99, "law", 1, 0, 0, 0);
        o.text(1, 1, "1|1|1|1|1|1|1|1|1|1|1|1|1|1|1|1|1|1|1|1|1|1|1|1|11").due(1, "law", 1, 0, 0, 0);
        o.text(1, 1, "1&1&1&1&1&1&1&1&1&1&1&1&1&1&1&1&1&1&1&1&1&1&1&1&00").due(0, "law", 1, 0, 0, 0);
        Due.part("as deep as a TEXT may wait for what is right of it");
        o.text(1, 1, "1|1&1=1+1*(1|1&1=1+1*(1|1&1=1+1*(1|1&1=0+1*(7))))").due(1, "law", 1, 0, 0, 0);
        o.text(1, 1, "0|1&7>1+1*(0|1&7>1+1*(0|1&7>1+1*(0|1&7>9+1*(e))))").due(1, "law", 1, 0, 0, 0);
    }

    private static int worth(String s, int b, int e, int m) {
        Ask o = new Ask().text(1, 1, s);
        return o.call("law", 1, b, e, m);
    }

    private static void worth(int want, String s, int b, int e, int m) {
        Due.is(s + " with " + b + ", " + e + ", " + m, worth(s, b, e, m), want);
    }

    private static void wraps() {
        Due.part("ints that wrap");
        worth(1, "b+1=e", MAX, MIN, 0);
        worth(1, "b-1=e", MIN, MAX, 0);
        worth(1, "b*2=e", MAX, -2, 0);
        worth(1, "b*b=0", 65536, 0, 0);
        worth(1, "b*e=b", MIN, -1, 0);
        worth(1, "0-b=b", MIN, 0, 0);
        worth(1, "b+e=0-1", MAX, MIN, 0);
        worth(1, "b-e=0-1", MAX, MIN, 0);
        worth(1, "9999*9999*9999=e", 0, 9999 * 9999 * 9999, 0);
        worth(1, "b<e", MIN, MAX, 0);
        worth(0, "b>e", MIN, MAX, 0);
        worth(0, "b-e>0", MAX, MIN, 0);
        worth(1, "b/(0-1)=b", MIN, 0, 0);
        worth(0, "b%(0-1)", MIN, 0, 0);
        worth(0, "b", MIN, 0, 0);
        worth(99, "b", MAX, 0, 0);
    }

    private static void byNothing() {
        Due.part("/ and % by 0 are 0");
        for (int b : new int[] {0, 1, -1, MAX, MIN}) {
            worth(5, "5+b/0", b, 0, 0);
            worth(5, "5+b%0", b, 0, 0);
            worth(5, "5+b/e", b, 0, 0);
            worth(5, "5+b%e", b, 0, 0);
            worth(7, "7-b/(3-3)", b, 0, 0);
            worth(7, "7-b%!1", b, 0, 0);
        }
        worth(0, "0/0/0", 0, 0, 0);
        worth(3, "9/0%0+3", 0, 0, 0);
        Due.part("all is worked out");
        worth(1, "1|1/0", 0, 0, 0);
        worth(0, "0&1/0", 0, 0, 0);
        worth(1, "1%0|1", 0, 0, 0);
    }

    private static void trueOrNot() {
        Due.part("| & < = > ! are 1 or 0, what is not 0 being true");
        int[] values = {0, 1, -1, 2, MAX, MIN};
        // Behind 50, so that what is below 0 would show.
        for (int b : values) {
            worth(b == 0 ? 51 : 50, "50+!b", b, 0, 0);
            worth(b == 0 ? 50 : 51, "50+!!b", b, 0, 0);
            for (int e : values) {
                worth(b != 0 || e != 0 ? 51 : 50, "50+(b|e)", b, e, 0);
                worth(b != 0 && e != 0 ? 51 : 50, "50+(b&e)", b, e, 0);
                worth(b < e ? 51 : 50, "50+(b<e)", b, e, 0);
                worth(b == e ? 51 : 50, "50+(b=e)", b, e, 0);
                worth(b > e ? 51 : 50, "50+(b>e)", b, e, 0);
            }
        }
    }

    private static void cut() {
        Due.part("/ cut, % the rest that it leaves");
        for (int b = -7; b <= 7; b++) {
            for (int e = -3; e <= 3; e++) {
                int size = e == 0 ? 0 : Math.abs(b) / Math.abs(e);
                int quotient = b < 0 == e < 0 ? size : -size;
                worth(50 + quotient, "50+b/e", b, e, 0);
                worth(e == 0 ? 50 : 50 + b - quotient * e, "50+b%e", b, e, 0);
            }
        }
    }

    private static void held() {
        Due.part("BENDS held within 0 to 9, PICKS held within 0 to 99");
        int[][] rows = {{0, 9}, {1, 99}};
        for (int[] r : rows) {
            int most = r[1];
            Ask o = new Ask().text(1, r[0], "m");
            long[] at = r[0] == 0 ? new long[] {0, 0, 0, 0} : new long[] {1, 0, 0, 0};
            int place = r[0] == 0 ? 2 : 3;
            int[] values = {MIN, -1, 0, 1, most - 1, most, most + 1, MAX};
            int[] dues = {0, 0, 0, 1, most - 1, most, most, most};
            for (int i = 0; i < values.length; i++) {
                at[place] = values[i];
                o.due(dues[i], "law", at);
            }
        }
        Due.part("held ahead of what the KIND adds");
        Ask kinds = new Ask().people(32, 40, 10).text(1, 0, "50").due(11, "ofPerson", 0, 7).due(9, "ofPerson", 1, 7);
        kinds.due(8, "ofPerson", 2, 7).text(1, 0, "0-5").due(2, "ofPerson", 0, 7).due(1, "ofPerson", 1, 7);
        kinds.due(0, "ofPerson", 2, 7);
    }

    private static void withoutText() {
        Due.part("without a TEXT w/2, and b+1");
        Ask o = new Ask();
        int[][] bends = {{MIN, 0}, {-3, 0}, {-1, 0}, {0, 0}, {1, 0}, {2, 1}, {3, 1}, {17, 8}, {18, 9}, {19, 9}, {20, 9},
            {169, 9}, {MAX, 9}};
        for (int[] r : bends) {
            o.due(r[1], "law", 0, r[0], 5, 7);
        }
        int[][] picks = {{MIN, 0}, {-2, 0}, {-1, 0}, {0, 1}, {1, 2}, {97, 98}, {98, 99}, {99, 99}, {MAX, 0}};
        for (int[] r : picks) {
            o.due(r[1], "law", 1, r[0], 5, 7);
        }
    }

    private static void names() {
        Due.part("NAMES of the USES, and law: BEYOND");
        Ask o = new Ask().text(1, 0, "w-m*2-d*3").text(1, 1, "b-e*2-m*3");
        o.due(4, "law", 0, 30, 4, 6).due(4, "law", 1, 30, 4, 6);
        for (int use : new int[] {-1, 2, MAX, MIN}) {
            o.due(BEYOND, "law", use, 30, 4, 6);
        }
        Due.part("what the NAMES are at a DAWN");
        Ask bends = new Ask().people(4, 20).make("wrong", 0, 1, 20).make("dawns", 2).text(1, 0, "w-m*2-d*3");
        bends.due(6, "ofPerson", 0, 7);
        Ask picks = new Ask().people(35, 20).make("wrong", 0, 1, 20).text(1, 1, "b*100-e*50-m*15");
        picks.due(11, "ofPerson", 0, 7).due(20 - 2, "dawns", 1).make("lay", 0, 0, 20).make("lay", 0, 1, 9)
                .due(36, "dawns", 1);
        Ask few = new Ask().people(35, 20).make("wrong", 0, 1, 20).text(1, 1, "b*100-e*53-m*7").due(5 - 2, "dawns", 1);
        few.due(15, "ofCell", 0, 0);
    }

    private static void textStays() {
        Due.part("text: BEYOND (THE TAPE stays)");
        Ask o = new Ask().feed("w*4");
        for (int use : new int[] {-1, 2, MAX, MIN}) {
            o.due(BEYOND, "text", use).due(3, "count", 7);
        }
        o.due(1, "text", 0).due(0, "count", 7).due(8, "law", 0, 2, 0, 0).due(3, "law", 1, 2, 0, 0);
        Due.part("text: BEYOND ahead of a FAULT");
        new Ask().feed("w+").due(BEYOND, "text", 2).due(2, "count", 7).due(-12, "text", 0).due(0, "count", 7);
        Due.part("text: -10 less the FAULT (the one ahead stays)");
        o.text(-12, 0, "w+").due(0, "count", 7).due(8, "law", 0, 2, 0, 0).text(-10, 1, "w").due(3, "law", 1, 2, 0, 0);
        o.due(-10, "text", 0).due(8, "law", 0, 2, 0, 0).due(4, "told", 1);
        Due.part("text: in place of one ahead, of that USE alone");
        o.text(1, 1, "e").due(9, "law", 1, 2, 9, 0).due(8, "law", 0, 2, 0, 0);
        o.text(1, 0, "w*3").due(6, "law", 0, 2, 0, 0).due(9, "law", 1, 2, 9, 0);
        Due.part("no USE knows the NAMES of the other one alone");
        o.text(-10, 0, "b").text(-10, 0, "e").text(-10, 1, "d").text(-10, 1, "w").text(1, 0, "m").text(1, 1, "m");
    }
}
