/** One object that is asked by the names of its calls, so that a wrong answer is told with its call. */
final class Ask {
    static final int BEYOND = -1000000001;
    static final int NONE = -1000000002;
    static final int STATE = -1000000003;
    static final int FULL = -1000000004;
    static final int KIND = -1000000005;
    static final int MAX = Integer.MAX_VALUE;
    static final int MIN = Integer.MIN_VALUE;

    private static final int MOST_CALLS = 512;

    private final GleanedSorry object = new GleanedSorry();
    private int calls = 0;

    int call(String name, long... a) {
        calls++;
        // Nothing is promised behind the 512th call, so a test that goes on would test nothing.
        if (calls > MOST_CALLS || a.length != Calls.arity(name)) {
            throw new IllegalStateException("call " + calls + ": " + written(name, a));
        }
        return Calls.answer(object, name, a);
    }

    Ask due(long want, String name, long... a) {
        Due.is(written(name, a), call(name, a), want);
        return this;
    }

    /** For calls that only lead to what is asked, and whose answers other tests ask for. */
    Ask make(String name, long... a) {
        int got = call(name, a);
        Due.is(written(name, a) + " is no ERROR", got >= KIND && got <= BEYOND ? 1 : 0, 0);
        return this;
    }

    Ask makeTimes(int times, String name, long... a) {
        for (int i = 0; i < times; i++) {
            make(name, a);
        }
        return this;
    }

    /** PEOPLE, all of them AT CELL 0. */
    Ask people(int... kms) {
        for (int km : kms) {
            make("person", km, 0);
        }
        return this;
    }

    Ask feed(String s) {
        for (int i = 0; i < s.length(); i += 8) {
            int n = Math.min(8, s.length() - i);
            long word = 0;
            for (int j = 0; j < n; j++) {
                word |= (long) s.charAt(i + j) << 8 * j;
            }
            make("feed", word, n);
        }
        return this;
    }

    int text(int use, String s) {
        feed(s);
        return call("text", use);
    }

    Ask text(int want, int use, String s) {
        Due.is("text of " + s, text(use, s), want);
        return this;
    }

    /** A SHEET with these numbers. */
    Ask numbers(int sheet, int bits, int... row) {
        make("sheet", sheet, bits, row.length);
        for (int i = 0; i < row.length; i++) {
            make("put", sheet, i, row[i]);
        }
        return this;
    }

    /** EARS of CELLS 0, 1, .. are these. */
    Ask dueEars(int... row) {
        for (int i = 0; i < row.length; i++) {
            due(row[i], "ofCell", i, 0);
        }
        return this;
    }

    Ask dueTold(int... row) {
        for (int k = 1; k <= row.length; k++) {
            due(row[k - 1], "told", k);
        }
        return this;
    }

    /** DAWN is 9960 behind this: 166 calls. */
    Ask comeLate() {
        return makeTimes(166, "dawns", 60);
    }

    static String written(String name, long... a) {
        StringBuilder s = new StringBuilder(name).append('(');
        for (int i = 0; i < a.length; i++) {
            s.append(i == 0 ? "" : ", ").append(a[i]);
        }
        return s.append(')').toString();
    }
}
