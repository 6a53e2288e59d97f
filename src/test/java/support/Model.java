import java.util.ArrayList;
import java.util.List;

/**
 * The document once more, written apart from the class and as plainly as can be: everything is copied for a
 * thought, TEXTS are worked out from their signs each time, and FAULTS are found by an automaton.
 */
final class Model {
    static final int BEYOND = -1000000001;
    static final int NONE = -1000000002;
    static final int STATE = -1000000003;
    static final int FULL = -1000000004;
    static final int KIND = -1000000005;

    static final class Person {
        int kind, m, at, way, bag, hungry;

        Person copy() {
            Person p = new Person();
            p.kind = kind;
            p.m = m;
            p.at = at;
            p.way = way;
            p.bag = bag;
            p.hungry = hungry;
            return p;
        }
    }

    static final class World {
        List<int[]> cells = new ArrayList<>();
        List<Person> people = new ArrayList<>();
        List<int[]> wrongs = new ArrayList<>();
        int dawn = 0;
        String[] texts = {"w/2", "b+1"};
        String tape = "";
        List<Integer> waiting = new ArrayList<>();
        int z = 1;
        /** For thoughts: added to, or put in place of, what WEIGHS on one. */
        int addedTo = -1, added = 0, fixedOn = -1, fixed = 0;
        int[] picked = new int[6];

        World copy() {
            World w = new World();
            for (int[] c : cells) w.cells.add(c.clone());
            for (Person p : people) w.people.add(p.copy());
            for (int[] c : wrongs) w.wrongs.add(c.clone());
            w.dawn = dawn;
            w.texts = texts.clone();
            w.tape = tape;
            w.waiting.addAll(waiting);
            w.z = z;
            return w;
        }

        int weighs(int p) {
            if (p == fixedOn) return fixed;
            int sum = p == addedTo ? added : 0;
            for (int[] w : wrongs) if (w[0] == p) sum += w[2];
            if (people.get(p).kind == 6) sum += people.get(p).m;
            return sum;
        }

        int law(int use, int a, int b, int c) {
            int v = new Reader(texts[use], use == 0 ? "wmd" : "bem", a, b, c).t();
            int most = use == 0 ? 9 : 99;
            return v < 0 ? 0 : v > most ? most : v;
        }

        int bends(int i) {
            Person p = people.get(i);
            int v = law(0, weighs(i), p.m, dawn);
            boolean other = false;
            for (int j = 0; j < people.size(); j++) if (j != i && people.get(j).at == p.at) other = true;
            int sister = other && v > 0 ? v - 1 : v;
            return new int[] {v, sister, 0, v + p.m % 3, sister + 1, p.m / 2, v + p.m % 3}[p.kind];
        }

        int eats(int i) {
            Person p = people.get(i);
            return new int[] {2, 1, 2, 2, 1, 3, 2 + p.m % 2}[p.kind];
        }

        int bags() {
            int sum = 0;
            for (Person p : people) sum += p.bag;
            return sum;
        }

        void pass() {
            for (int i = 0; i < people.size(); i++) {
                Person p = people.get(i);
                int[] cell = cells.get(p.at);
                int b = bends(i);
                int takes = b < cell[1] ? 0 : Math.min(cell[0], law(1, b, cell[0], p.m));
                picked[i] = takes;
                cell[0] -= takes;
                p.bag += takes;
                if (p.bag > 9999) p.bag = 9999;
            }
            for (Person p : people) {
                if (p.at + p.way < 0 || p.at + p.way >= cells.size()) p.way = -p.way;
                else p.at += p.way;
            }
            for (int i = 0; i < people.size(); i++) {
                Person p = people.get(i);
                int needs = eats(i);
                if (p.bag >= needs) {
                    p.bag -= needs;
                } else {
                    p.bag = 0;
                    p.hungry = Math.min(9999, p.hungry + 1);
                }
            }
            dawn++;
        }

        World behind(int n) {
            World w = copy();
            w.addedTo = addedTo;
            w.added = added;
            w.fixedOn = fixedOn;
            w.fixed = fixed;
            for (int i = 0; i < n; i++) w.pass();
            return w;
        }

        World forgiving(int set) {
            World w = copy();
            for (int i = wrongs.size() - 1; i >= 0; i--) if ((set >> i & 1) == 1) w.wrongs.remove(i);
            return w;
        }

        int draw() {
            z = z * 1103515245 + 12345;
            return z >>> 8;
        }
    }

    /** Works out a TEXT that has no FAULT. */
    static final class Reader {
        final String s, names;
        final int[] values;
        int at = 0;

        Reader(String s, String names, int a, int b, int c) {
            this.s = s;
            this.names = names;
            values = new int[] {a, b, c};
        }

        boolean eat(String signs) {
            return at < s.length() && signs.indexOf(s.charAt(at)) >= 0;
        }

        int t() {
            int v = a();
            while (eat("|")) {
                at++;
                int o = a();
                v = v != 0 || o != 0 ? 1 : 0;
            }
            return v;
        }

        int a() {
            int v = b();
            while (eat("&")) {
                at++;
                int o = b();
                v = v != 0 && o != 0 ? 1 : 0;
            }
            return v;
        }

        int b() {
            int v = sum();
            if (eat("<=>")) {
                char c = s.charAt(at++);
                int o = sum();
                return (c == '<' ? v < o : c == '=' ? v == o : v > o) ? 1 : 0;
            }
            return v;
        }

        int sum() {
            int v = product();
            while (eat("+-")) {
                char c = s.charAt(at++);
                int o = product();
                v = c == '+' ? v + o : v - o;
            }
            return v;
        }

        int product() {
            int v = q();
            while (eat("*/%")) {
                char c = s.charAt(at++);
                int o = q();
                v = c == '*' ? v * o : o == 0 ? 0 : c == '/' ? v / o : v % o;
            }
            return v;
        }

        int q() {
            if (eat("!")) {
                at++;
                return q() == 0 ? 1 : 0;
            }
            if (eat("(")) {
                at++;
                int v = t();
                at++;
                return v;
            }
            if (eat("0123456789")) {
                int from = at;
                while (eat("0123456789")) at++;
                return Integer.parseInt(s.substring(from, at));
            }
            return values[names.indexOf(s.charAt(at++))];
        }
    }

    /** -1: it is a TEXT; else the FAULT. A walk over the bytes with a row of what is open, no grammar. */
    static int fault(String s, String names) {
        StringBuilder open = new StringBuilder();
        List<Boolean> compared = new ArrayList<>();
        compared.add(false);
        boolean wantsUnit = true;
        int digits = 0;
        for (int i = 0; i < s.length(); i++) {
            char c = s.charAt(i);
            int last = compared.size() - 1;
            if (wantsUnit) {
                if (c == '!' || c == '(') {
                    if (open.length() == 5) return i;
                    open.append(c);
                    if (c == '(') compared.add(false);
                    continue;
                }
                if (c >= '0' && c <= '9') digits = 1;
                else if (names.indexOf(c) >= 0) digits = 0;
                else return i;
                wantsUnit = false;
                closeNots(open);
            } else if (c >= '0' && c <= '9') {
                if (digits == 0 || digits == 4) return i;
                digits++;
            } else if (c == ')') {
                if (open.length() == 0) return i;
                open.setLength(open.length() - 1);
                compared.remove(last);
                closeNots(open);
                digits = 0;
            } else if ("|&<=>+-*/%".indexOf(c) >= 0) {
                if ("<=>".indexOf(c) >= 0) {
                    if (compared.get(last)) return i;
                    compared.set(last, true);
                }
                if (c == '|' || c == '&') compared.set(last, false);
                wantsUnit = true;
            } else {
                return i;
            }
        }
        return wantsUnit || open.length() > 0 ? s.length() : -1;
    }

    private static void closeNots(StringBuilder open) {
        while (open.length() > 0 && open.charAt(open.length() - 1) == '!') open.setLength(open.length() - 1);
    }

    World now = new World();
    World kept = null;
    int kepts = 0;
    List<Integer> trace = new ArrayList<>();
    int[][] sheets = new int[4][];
    int[] bits = new int[4];
    int[] told = new int[6];

    Model() {
        cells(5);
    }

    void cells(int n) {
        now.cells.clear();
        for (int i = 0; i < n; i++) now.cells.add(new int[] {20, 1});
    }

    /** Which body does an act of a KIND, from that KIND upwards: the KIND that has it. */
    static int holder(int act, int kind) {
        int[][] has = {{0, 1, 2, 3}, {0}, {1}, {2}, {3}, {1}, {2, 3}};
        int[] above = {-1, 0, 0, 0, 1, 2, 3};
        for (int k = kind; k >= 0; k = above[k]) for (int a : has[k]) if (a == act) return k;
        return -1;
    }

    int say(int act, int from, int x, int n) {
        Person p = now.people.get(n);
        int h = holder(act, from);
        int[] above = {-1, 0, 0, 0, 1, 2, 3};
        int up = above[h];
        int k = p.kind;
        int body = h == 0 ? 10 + act : h == 6 ? 70 + act - 2 : 10 + 10 * h;
        if (trace.size() < 40) trace.add(body);
        int left;
        switch (body) {
            case 10: return x + n;
            case 11: return say(0, k, x, n) * 2;
            case 12: return x - p.m;
            case 13: left = say(1, k, x, n); return left ^ say(2, k, x, n);
            case 20: return say(0, up, x, n) * 3;
            case 30: left = say(1, up, x, n); return left - say(2, k, 1, n);
            case 40: return -say(2, up, x, n);
            case 50: left = say(3, up, x, n); return left - say(0, k, 2, n);
            case 60: return say(1, up, x + 1, n);
            case 70: return say(2, up, x, n) ^ n;
            default: left = say(1, k, x, n); return left - say(3, up, x, n);
        }
    }

    boolean p(long i) {
        return i >= 0 && i < now.people.size();
    }

    boolean c(long i) {
        return i >= 0 && i < now.cells.size();
    }

    static boolean in(long v, long a, long b) {
        return v >= a && v <= b;
    }

    int answer(String call, long[] a) {
        // Only these calls may give an ERROR's number without an ERROR, when they are asked rightly.
        boolean free = call.equals("seed") || call.equals("voice") && p(a[0]) && in(a[1], 0, 3)
                || call.equals("count") && a[0] == 10;
        int v = act(call, a);
        if (!free && v <= BEYOND && v >= KIND) told[-1000000000 - v]++;
        return v;
    }

    private int act(String call, long[] a) {
        int x = a.length > 0 ? (int) a[0] : 0;
        int y = a.length > 1 ? (int) a[1] : 0;
        int z = a.length > 2 ? (int) a[2] : 0;
        int was;
        switch (call) {
            case "field":
                if (!in(x, 2, 10)) return BEYOND;
                if (!now.people.isEmpty()) return STATE;
                was = now.cells.size();
                cells(x);
                return was;
            case "lay":
                if (!c(x) || !in(y, 0, 1) || !in(z, 0, y == 0 ? 999 : 9)) return BEYOND;
                was = now.cells.get(x)[y];
                now.cells.get(x)[y] = z;
                return was;
            case "ofCell":
                if (!c(x) || !in(y, 0, 2)) return BEYOND;
                if (y < 2) return now.cells.get(x)[y];
                was = 0;
                for (int i = 0; i < now.people.size(); i++) if (now.people.get(i).at == x) was += 1 << i;
                return was;
            case "person": {
                if (!in(x, 0, 69) || !c(y)) return BEYOND;
                if (now.people.size() == 6) return FULL;
                Person q = new Person();
                q.kind = x / 10;
                q.m = x % 10;
                q.at = y;
                now.people.add(q);
                return now.people.size() - 1;
            }
            case "ofPerson": {
                if (!p(x) || !in(y, 0, 8)) return BEYOND;
                Person q = now.people.get(x);
                return new int[] {q.kind, q.m, q.at, q.way, q.bag, q.hungry, now.weighs(x), now.bends(x),
                    now.eats(x)}[y];
            }
            case "change": {
                if (!p(x) || !in(y, 0, 2)) return BEYOND;
                Person q = now.people.get(x);
                if (y == 0) {
                    if (!c(z)) return BEYOND;
                    was = q.at;
                    q.at = z;
                } else if (y == 1) {
                    if (!in(z, -1, 1)) return BEYOND;
                    was = q.way;
                    q.way = z;
                } else {
                    if (!in(z, 0, 9999)) return BEYOND;
                    was = q.bag;
                    q.bag = z;
                }
                return was;
            }
            case "become": {
                if (!p(x) || !in(y, 0, 69)) return BEYOND;
                Person q = now.people.get(x);
                was = q.kind;
                q.kind = y / 10;
                q.m = y % 10;
                return was;
            }
            case "as": {
                if (!p(x) || !in(y, 0, 6)) return BEYOND;
                int k = now.people.get(x).kind;
                boolean is = y == k || y == 0 || y == 1 && k == 4 || y == 2 && k == 5 || y == 3 && k == 6;
                return is ? now.people.get(x).m : KIND;
            }
            case "wrong":
                if (!p(x) || !p(y) || x == y || !in(z, 1, 20)) return BEYOND;
                if (now.wrongs.size() == 8) return FULL;
                now.wrongs.add(new int[] {x, y, z});
                return now.wrongs.size() - 1;
            case "ofWrong":
                if (!in(x, 0, now.wrongs.size() - 1) || !in(y, 0, 2)) return BEYOND;
                return now.wrongs.get(x)[y];
            case "forgive":
                if (!in(x, 0, now.wrongs.size() - 1)) return BEYOND;
                now.wrongs.remove(x);
                return now.wrongs.size();
            case "borrow":
                if (!in(x, 0, now.wrongs.size() - 1) || !p(y) || now.wrongs.get(x)[1] == y) return BEYOND;
                was = now.wrongs.get(x)[0];
                now.wrongs.get(x)[0] = y;
                return was;
            case "feed":
                if (!in(y, 1, 8)) return BEYOND;
                if (now.tape.length() + y > 50) return FULL;
                for (int i = 0; i < y; i++) now.tape += (char) (a[0] >> 8 * i & 255);
                return now.tape.length();
            case "text": {
                if (!in(x, 0, 1)) return BEYOND;
                int f = fault(now.tape, x == 0 ? "wmd" : "bem");
                if (f < 0) now.texts[x] = now.tape;
                now.tape = "";
                return f < 0 ? 1 : -10 - f;
            }
            case "law":
                return in(x, 0, 1) ? now.law(x, y, z, (int) a[3]) : BEYOND;
            case "dawns":
            case "loose":
                if (!in(x, 1, call.equals("dawns") ? 60 : 40)) return BEYOND;
                if (now.dawn + x > 9999) return STATE;
                for (int i = 0; i < x; i++) {
                    if (call.equals("loose") && !now.people.isEmpty()) {
                        Person q = now.people.get(now.draw() % now.people.size());
                        q.way = now.draw() % 3 - 1;
                    }
                    now.pass();
                }
                return now.bags();
            case "seed":
                was = now.z;
                now.z = x;
                return was;
            case "voice":
                if (!p(x) || !in(y, 0, 3)) return BEYOND;
                trace.clear();
                return say(y, now.people.get(x).kind, z, x);
            case "trace":
                return in(x, 0, trace.size() - 1) ? trace.get(x) : NONE;
            case "image":
                kept = now.copy();
                return ++kepts;
            case "restore":
                if (kept == null) return NONE;
                now = kept.copy();
                return now.dawn;
            case "tell":
                if (now.waiting.size() == 20) return FULL;
                now.waiting.add(x);
                return now.waiting.size();
            case "check":
                was = 0;
                for (int i = 0; i < now.waiting.size(); i++) {
                    if (was == 0 && now.behind(i + 1).bags() != now.waiting.get(i)) was = 1 + i;
                }
                now.waiting.clear();
                return was;
            case "count":
                return counted(x);
            case "told":
                return in(x, 1, 5) ? told[x] : BEYOND;
            case "sheet":
            case "put":
            case "move":
            case "ears":
            case "judge":
                return onSheets(call, a);
            default:
                return wouldBe(call, x, y, z);
        }
    }

    private int counted(int what) {
        int sum = 0;
        switch (what) {
            case 0: return now.cells.size();
            case 1: return now.people.size();
            case 2: return now.wrongs.size();
            case 3: return now.dawn;
            case 4: for (int[] c : now.cells) sum += c[0]; return sum;
            case 5: return now.bags();
            case 6: for (Person p : now.people) sum += p.hungry; return sum;
            case 7: return now.tape.length();
            case 8: return now.waiting.size();
            case 9: return trace.size();
            case 10: return now.z;
            default: return BEYOND;
        }
    }

    private int onSheets(String call, long[] a) {
        int s = (int) a[0];
        if (!in(s, 0, 3)) return BEYOND;
        switch (call) {
            case "sheet":
                if (a[1] == 0) {
                    sheets[s] = null;
                    bits[s] = 0;
                    return 1;
                }
                if (a[1] != 8 && a[1] != 16 && a[1] != 32) return BEYOND;
                if (a[2] < 0) return STATE;
                if (a[2] > 40) return BEYOND;
                sheets[s] = new int[(int) a[2]];
                bits[s] = (int) a[1];
                return 1;
            case "put":
                if (sheets[s] == null) return NONE;
                if (!in(a[1], 0, sheets[s].length - 1)) return BEYOND;
                sheets[s][(int) a[1]] = (int) a[2] << 32 - bits[s] >> 32 - bits[s];
                return 1;
            case "move": {
                if (!in(a[2], 0, 3)) return BEYOND;
                int o = (int) a[2];
                if (sheets[s] == null || sheets[o] == null) return NONE;
                if (bits[s] != bits[o]) return KIND;
                if (a[4] < 0 || a[1] < 0 || a[3] < 0 || a[1] + a[4] > sheets[s].length
                        || a[3] + a[4] > sheets[o].length) return BEYOND;
                int[] were = sheets[s].clone();
                for (int i = 0; i < a[4]; i++) sheets[o][(int) a[3] + i] = were[(int) a[1] + i];
                return (int) a[4];
            }
            case "ears":
                if (sheets[s] == null) return NONE;
                for (int i = 0;; i++) {
                    if (i == sheets[s].length || i == now.cells.size() || !in(sheets[s][i], 0, 999)) return i;
                    now.cells.get(i)[0] = sheets[s][i];
                }
            default:
                if (sheets[s] == null) return NONE;
                for (int i = 0;; i++) {
                    boolean number = i < sheets[s].length;
                    if (!number && !p(i)) return -1;
                    if (!number || !p(i) || sheets[s][i] != now.people.get(i).bag) return i;
                }
        }
    }

    private static int hungryOf(World w, int p) {
        return w.people.get(p).hungry;
    }

    private boolean anyHungrier(World w) {
        for (int i = 0; i < now.people.size(); i++) if (hungryOf(w, i) > hungryOf(now, i)) return true;
        return false;
    }

    private int wouldBe(String call, int x, int y, int z) {
        switch (call) {
            case "then":
                if (!in(x, 0, 60) || !p(y) || !in(z, 0, 1)) return BEYOND;
                return z == 0 ? now.behind(x).people.get(y).bag : hungryOf(now.behind(x), y);
            case "upright": {
                if (!in(x, 0, 1)) return BEYOND;
                World w = now.copy();
                for (int n = 0; n <= 60; n++) {
                    for (int i = 0; i < now.people.size(); i++) {
                        if (hungryOf(w, i) > hungryOf(now, i)) return x == 0 ? n : i;
                    }
                    w.pass();
                }
                return NONE;
            }
            case "adds":
                if (!p(x) || !in(y, 0, 60)) return BEYOND;
                for (int more = 0; more <= 40; more++) {
                    World w = now.copy();
                    w.addedTo = x;
                    w.added = more;
                    if (hungryOf(w.behind(y), x) <= hungryOf(now, x)) return more;
                }
                return NONE;
            case "pardons": {
                if (!in(x, 0, 20)) return BEYOND;
                int found = NONE;
                for (int set = 0; set < 1 << now.wrongs.size(); set++) {
                    if (found != NONE && Integer.bitCount(set) <= Integer.bitCount(found)) continue;
                    if (!anyHungrier(now.forgiving(set).behind(x))) found = set;
                }
                return found;
            }
            case "starves": {
                if (!in(x, 0, 60)) return BEYOND;
                int set = 0;
                for (int i = 0; i < now.people.size(); i++) {
                    World w = now.copy();
                    int one = i;
                    w.wrongs.removeIf(r -> r[0] == one);
                    if (hungryOf(w.behind(x), i) > hungryOf(now, i)) set += 1 << i;
                }
                return set;
            }
            case "best": {
                if (!p(x) || !in(y, 0, 60) || !in(z, 0, 1)) return BEYOND;
                int most = -1;
                int cell = -1;
                for (int i = 0; i < now.cells.size(); i++) {
                    World w = now.copy();
                    w.people.get(x).at = i;
                    int bag = w.behind(y).people.get(x).bag;
                    if (bag > most) {
                        most = bag;
                        cell = i;
                    }
                }
                return z == 0 ? cell : most;
            }
            case "brings": {
                if (!in(x, 0, 3) || !p(y) || !in(z, 0, 1)) return BEYOND;
                if (sheets[x] == null) return NONE;
                List<Integer> could = new ArrayList<>();
                for (int v = 0; v < 100; v++) {
                    World w = now.copy();
                    w.fixedOn = y;
                    w.fixed = v;
                    boolean so = true;
                    for (int told : sheets[x]) {
                        w.pass();
                        so = so && w.picked[y] == told;
                    }
                    if (so) could.add(v);
                }
                if (z == 0) return could.size();
                return could.isEmpty() ? NONE : could.get(0);
            }
            case "shares": {
                if (!in(x, 1, 30) || !(y == -1 || p(y))) return BEYOND;
                int left = now.bags();
                int asked = 0;
                for (int i = 0; i < now.people.size(); i++) {
                    int gets = Math.min(left, x * now.eats(i));
                    left -= gets;
                    if (i == y) asked = gets;
                }
                return y == -1 ? left : asked;
            }
            case "odds": {
                if (!p(x) || !in(y, 0, 60) || !in(z, 0, 1)) return BEYOND;
                int all = now.wrongs.size();
                if (all == 0) return STATE;
                int good = 0;
                for (int i = 0; i < all; i++) {
                    if (hungryOf(now.forgiving(1 << i).behind(y), x) <= hungryOf(now, x)) good++;
                }
                if (good == 0) return z;
                int d = all;
                while (good % d != 0 || all % d != 0) d--;
                return z == 0 ? good / d : all / d;
            }
            default:
                throw new IllegalStateException(call);
        }
    }
}
