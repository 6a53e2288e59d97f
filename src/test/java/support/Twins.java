import java.util.ArrayList;
import java.util.List;
import java.util.function.Supplier;

/**
 * Two objects made by the same calls; one of them is asked something more. Behind that both are asked for all they
 * hold, and what only an act can show is shown by acts.
 */
final class Twins {
    private Twins() {
    }

    /** The call answers an ERROR, which told() counts, and nothing else is changed. */
    static void refused(Supplier<Ask> made, long error, String name, long... a) {
        Ask one = made.get();
        Ask other = made.get();
        int[] before = told(other);
        one.due(error, name, a);
        int[] behind = told(one);
        for (int k = 1; k <= 5; k++) {
            int more = -1000000000 - k == error ? 1 : 0;
            Due.is("told(" + k + ") behind " + Ask.written(name, a), behind[k], before[k] + more);
        }
        alike(one, other, Ask.written(name, a));
    }

    /** The call answers no ERROR, and changes nothing. */
    static void onlyAsked(Supplier<Ask> made, String name, long... a) {
        Ask one = made.get();
        Ask other = made.get();
        one.make(name, a);
        int[] behind = told(one);
        int[] before = told(other);
        for (int k = 1; k <= 5; k++) {
            Due.is("told(" + k + ") behind " + Ask.written(name, a), behind[k], before[k]);
        }
        alike(one, other, Ask.written(name, a));
    }

    private static int[] told(Ask o) {
        int[] all = new int[6];
        for (int k = 1; k <= 5; k++) {
            all[k] = o.call("told", k);
        }
        return all;
    }

    private static void alike(Ask one, Ask other, String behind) {
        List<String> calls = new ArrayList<>();
        List<Integer> ones = held(one, calls);
        List<Integer> others = held(other, new ArrayList<>());
        Due.is("as much is held behind " + behind, ones.size(), others.size());
        for (int i = 0; i < ones.size() && i < others.size(); i++) {
            Due.is(calls.get(i) + " behind " + behind, ones.get(i), others.get(i));
        }
    }

    private static List<Integer> held(Ask o, List<String> calls) {
        List<Integer> all = new ArrayList<>();
        read(o, all, calls);
        for (int i = 0; i <= 9; i++) {
            ask(o, all, calls, "trace", i);
        }
        readSheets(o, all, calls);
        act(o, all, calls);
        ask(o, all, calls, "restore");
        read(o, all, calls);
        act(o, all, calls);
        ask(o, all, calls, "image");
        return all;
    }

    private static void ask(Ask o, List<Integer> all, List<String> calls, String name, long... a) {
        calls.add(Ask.written(name, a));
        all.add(o.call(name, a));
    }

    /** What can be asked for without a change. */
    private static void read(Ask o, List<Integer> all, List<String> calls) {
        for (int what = 0; what <= 10; what++) {
            ask(o, all, calls, "count", what);
        }
        for (int cell = 0; cell < o.call("count", 0); cell++) {
            ask(o, all, calls, "ofCell", cell, 0);
            ask(o, all, calls, "ofCell", cell, 1);
        }
        for (int p = 0; p < o.call("count", 1); p++) {
            for (int what = 0; what <= 5; what++) {
                ask(o, all, calls, "ofPerson", p, what);
            }
        }
        for (int w = 0; w < o.call("count", 2); w++) {
            for (int what = 0; what <= 2; what++) {
                ask(o, all, calls, "ofWrong", w, what);
            }
        }
        for (int use = 0; use <= 1; use++) {
            ask(o, all, calls, "law", use, 13, 2, 1);
        }
    }

    /** Numbers come out as EARS; of how many bits they are, by one that is cut. */
    private static void readSheets(Ask o, List<Integer> all, List<String> calls) {
        int cells = o.call("count", 0);
        for (int sheet = 0; sheet <= 3; sheet++) {
            ask(o, all, calls, "ears", sheet);
            for (int cell = 0; cell < cells; cell++) {
                ask(o, all, calls, "ofCell", cell, 0);
            }
            ask(o, all, calls, "put", sheet, 0, 65536 + 256 + 5);
            ask(o, all, calls, "ears", sheet);
            ask(o, all, calls, "ofCell", 0, 0);
        }
    }

    /** THE TAPE comes out as a TEXT, the numbers that wait by a check, z by draws. */
    private static void act(Ask o, List<Integer> all, List<String> calls) {
        ask(o, all, calls, "check");
        ask(o, all, calls, "feed", '0', 1);
        ask(o, all, calls, "text", 0);
        ask(o, all, calls, "law", 0, 105, 2, 1);
        ask(o, all, calls, "loose", 1);
        ask(o, all, calls, "count", 10);
    }
}
