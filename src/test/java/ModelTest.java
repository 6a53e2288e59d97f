import java.util.Arrays;
import java.util.HashMap;
import java.util.Map;
import java.util.Random;

/** Runs of calls drawn from a fixed seed: the class answers each as the model does. */
public final class ModelTest {
    private static final int RUNS = 1200;
    private static final int LATE_RUNS = 120;
    private static final int CALLS = 512;

    private final Random random;
    private final GleanedSorry object = new GleanedSorry();
    private final Model model = new Model();
    private final String run;
    private final Map<String, Integer> rightly;
    private int made = 0;

    private ModelTest(int seed, Map<String, Integer> rightly) {
        random = new Random(seed);
        run = "run " + seed;
        this.rightly = rightly;
    }

    public static void main(String[] args) {
        Map<String, Integer> rightly = new HashMap<>();
        for (int seed = 0; seed < RUNS; seed++) {
            new ModelTest(seed, rightly).go(false);
        }
        for (int seed = RUNS; seed < RUNS + LATE_RUNS; seed++) {
            new ModelTest(seed, rightly).go(true);
        }
        for (String name : Calls.NAMES) {
            Due.part("coverage");
            Due.is(name + " was answered without an ERROR often", rightly.getOrDefault(name, 0) > 500 ? 1 : 0, 1);
        }
        Due.end();
    }

    private int call(String name, long... a) {
        made++;
        int want = model.answer(name, a);
        Due.part(run + " call " + made);
        Due.is(name + Arrays.toString(a), Calls.answer(object, name, a), want);
        if (want > -1000000001) {
            rightly.merge(name, 1, Integer::sum);
        }
        return want;
    }

    private int upTo(int most) {
        return random.nextInt(most + 1);
    }

    private void go(boolean late) {
        boolean plentiful = random.nextBoolean();
        if (random.nextBoolean()) {
            call("field", 2 + upTo(8));
        }
        int people = upTo(6);
        for (int i = 0; i < people; i++) {
            call("person", upTo(69), upTo(model.now.cells.size() - 1));
            call("change", i, 1, upTo(2) - 1);
            if (plentiful) {
                call("change", i, 2, upTo(40));
            }
        }
        for (int i = 0; people > 1 && i < upTo(10); i++) {
            call("wrong", upTo(people - 1), upTo(people - 1), 1 + upTo(19));
        }
        if (random.nextInt(4) == 0) {
            write(0);
        }
        if (random.nextInt(4) == 0) {
            write(1);
        }
        if (late) {
            comeNearTheLastDawn();
        }
        while (made < CALLS - 10) {
            step();
        }
        for (int k = 1; k <= 5; k++) {
            call("told", k);
        }
        for (int k = 0; k < 4; k++) {
            call("count", random.nextInt(11));
        }
    }

    /** DAWN and HUNGRY come to their ends here, and thoughts go past them. */
    private void comeNearTheLastDawn() {
        for (int i = 0; i < 166; i++) {
            call("dawns", 60);
        }
        call("dawns", 1 + upTo(38));
        for (int i = 0; i < model.now.people.size(); i++) {
            call("then", upTo(60), i, 1);
            call("adds", i, upTo(60));
        }
        call("upright", 0);
        call("upright", 1);
        call("starves", upTo(60));
        call("pardons", upTo(20));
    }

    private void step() {
        String name = Calls.NAMES[random.nextInt(Calls.NAMES.length)];
        switch (name) {
            case "text":
                write(upTo(1));
                return;
            case "check":
                foretell();
                return;
            case "brings":
                bring();
                return;
            case "judge":
                judge();
                return;
            case "field":
            case "forgive":
            case "become":
                if (random.nextInt(3) > 0) {
                    return;
                }
                break;
            case "dawns":
            case "loose":
                // Long dawns empty every field, and nothing that is worth asking is left then.
                call(name, random.nextInt(20) == 0 ? edge() : 1 + upTo(2));
                if (random.nextInt(2) == 0) {
                    call("lay", upTo(model.now.cells.size() - 1), 0, upTo(60));
                }
                return;
            default:
        }
        long[] a = new long[Calls.arity(name)];
        for (int i = 0; i < a.length; i++) {
            a[i] = random.nextInt(12) == 0 ? edge() : likely(name, i, a);
        }
        call(name, a);
    }

    private int edge() {
        int[] edges = {-1, 0, 1, 2, 3, 4, 5, 6, 7, 8, 9, 10, 11, 19, 20, 21, 30, 31, 40, 41, 60, 61, 69, 70, 999,
            1000, 9999, 10000, -2, Integer.MAX_VALUE, Integer.MIN_VALUE};
        return edges[random.nextInt(edges.length)];
    }

    private int anyOne() {
        return upTo(Math.max(0, model.now.people.size() - 1));
    }

    private long likely(String name, int i, long[] a) {
        switch (name + i) {
            case "lay0": case "ofCell0": case "person1":
                return upTo(model.now.cells.size() - 1);
            case "lay1": case "law0": case "upright0": case "best2": case "then2": case "odds2":
                return upTo(1);
            case "lay2":
                return a[1] == 0 ? upTo(60) : upTo(5);
            case "ofCell1": case "ofWrong1": case "change1":
                return upTo(2);
            case "person0": case "become1":
                return upTo(69);
            case "ofPerson0": case "change0": case "become0": case "as0": case "wrong0": case "wrong1": case "borrow1":
            case "then1": case "adds0": case "best0": case "odds0": case "voice0":
                return anyOne();
            case "ofPerson1":
                return upTo(8);
            case "change2":
                return a[1] == 0 ? upTo(model.now.cells.size() - 1) : a[1] == 1 ? upTo(2) - 1 : upTo(60);
            case "as1":
                return upTo(6);
            case "wrong2":
                return 1 + upTo(19);
            case "ofWrong0": case "forgive0": case "borrow0":
                return upTo(Math.max(0, model.now.wrongs.size() - 1));
            case "field0":
                return 2 + upTo(8);
            case "feed0":
                return random.nextLong();
            case "feed1":
                return 1 + upTo(7);
            case "then0": case "adds1": case "pardons0": case "starves0": case "best1": case "odds1":
                return upTo(9);
            case "shares0":
                return 1 + upTo(9);
            case "shares1":
                return upTo(model.now.people.size()) - 1;
            case "voice1": case "sheet0": case "put0": case "move0": case "move2": case "ears0":
                return upTo(3);
            case "trace0":
                return upTo(9);
            case "sheet1":
                return 8 << upTo(2);
            case "sheet2":
                return random.nextInt(5) == 0 ? upTo(40) : upTo(7);
            case "put1": case "move1": case "move3": case "move4":
                return upTo(6);
            case "put2":
                return random.nextInt(4) == 0 ? random.nextInt() : upTo(1200) - 100;
            case "count0":
                return upTo(10);
            case "told0":
                return 1 + upTo(4);
            default:
                return random.nextInt(3) == 0 ? random.nextInt() : upTo(40) - 20;
        }
    }

    /** Mostly right texts, some with one byte changed, lost or put in. */
    private void write(int use) {
        if (model.now.tape.length() > 0 && random.nextInt(2) == 0) {
            call("text", use);
        }
        StringBuilder s = new StringBuilder(grow(use, 3));
        if (random.nextInt(3) == 0 && s.length() > 0) {
            int at = random.nextInt(s.length());
            char c = "wmdbe0123456789|&<=>+-*/%!(((()xyz ".charAt(random.nextInt(35));
            switch (upTo(3)) {
                case 0: s.setCharAt(at, c); break;
                case 1: s.deleteCharAt(at); break;
                case 2: s.insert(at, c); break;
                default: s.setLength(at);
            }
        }
        for (int i = 0; i < s.length(); i += 8) {
            int n = Math.min(8, s.length() - i);
            long word = random.nextLong() << 8 * (n - 1) << 8;
            for (int j = 0; j < n; j++) {
                word |= (long) s.charAt(i + j) << 8 * j;
            }
            call("feed", word, n);
        }
        call("text", use);
    }

    private String grow(int use, int deep) {
        String names = use == 0 ? "wmd" : "bem";
        switch (deep == 0 ? upTo(3) : upTo(9)) {
            case 0:
                return "" + upTo(random.nextBoolean() ? 9 : 9999);
            case 1: case 2: case 3:
                return "" + names.charAt(upTo(2));
            case 4:
                return "!" + grow(use, 0);
            case 5:
                return "(" + grow(use, deep - 1) + ")";
            case 6:
                return "!(" + grow(use, deep - 1) + ")";
            default:
                return grow(use, deep - 1) + "|&<=>+-*/%++--//%".charAt(random.nextInt(17)) + grow(use, deep - 1);
        }
    }

    private void foretell() {
        int n = upTo(21);
        for (int i = 0; i < n; i++) {
            int told = model.now.behind(model.now.waiting.size() + 1).bags();
            call("tell", random.nextInt(25) == 0 ? told + 1 : told);
        }
        call("check");
    }

    private void bring() {
        int sheet = upTo(3);
        if (model.now.people.isEmpty() || random.nextInt(6) == 0) {
            call("brings", sheet, anyOne(), upTo(2));
            return;
        }
        int one = anyOne();
        int n = upTo(6);
        call("sheet", sheet, 8 << upTo(2), n);
        Model.World w = model.now.copy();
        w.fixedOn = one;
        w.fixed = upTo(30);
        for (int i = 0; i < n; i++) {
            w.pass();
            call("put", sheet, i, random.nextInt(15) == 0 ? upTo(9) : w.picked[one]);
        }
        call("brings", sheet, one, 0);
        call("brings", sheet, one, 1);
    }

    private void judge() {
        int sheet = upTo(3);
        int n = model.now.people.size() + (random.nextInt(4) == 0 ? upTo(2) - 1 : 0);
        call("sheet", sheet, 8 << upTo(2), n);
        for (int i = 0; i < n && i < model.now.people.size(); i++) {
            call("put", sheet, i, model.now.people.get(i).bag + (random.nextInt(15) == 0 ? 1 : 0));
        }
        call("judge", sheet);
        call("judge", random.nextInt(6) - 1);
    }
}
