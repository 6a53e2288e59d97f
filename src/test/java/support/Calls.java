/** Makes a call by its name. */
final class Calls {
    static final String[] NAMES = {"field", "lay", "ofCell", "person", "ofPerson", "change", "become", "as",
        "wrong", "ofWrong", "forgive", "borrow", "feed", "text", "law", "dawns", "loose", "then", "upright",
        "adds", "pardons", "starves", "best", "brings", "shares", "odds", "seed", "voice", "trace", "sheet",
        "put", "move", "ears", "judge", "image", "restore", "tell", "check", "count", "told"};

    private Calls() {
    }

    static int arity(String name) {
        switch (name) {
            case "image": case "restore": case "check":
                return 0;
            case "field": case "forgive": case "text": case "dawns": case "loose": case "upright": case "pardons":
            case "starves": case "seed": case "trace": case "ears": case "judge": case "tell": case "count":
            case "told":
                return 1;
            case "ofCell": case "person": case "ofPerson": case "become": case "as": case "ofWrong": case "borrow":
            case "feed": case "adds": case "shares":
                return 2;
            case "law":
                return 4;
            case "move":
                return 5;
            default:
                return 3;
        }
    }

    static int answer(GleanedSorry o, String name, long[] a) {
        int x = a.length > 0 ? (int) a[0] : 0;
        int y = a.length > 1 ? (int) a[1] : 0;
        int z = a.length > 2 ? (int) a[2] : 0;
        switch (name) {
            case "field": return o.field(x);
            case "lay": return o.lay(x, y, z);
            case "ofCell": return o.ofCell(x, y);
            case "person": return o.person(x, y);
            case "ofPerson": return o.ofPerson(x, y);
            case "change": return o.change(x, y, z);
            case "become": return o.become(x, y);
            case "as": return o.as(x, y);
            case "wrong": return o.wrong(x, y, z);
            case "ofWrong": return o.ofWrong(x, y);
            case "forgive": return o.forgive(x);
            case "borrow": return o.borrow(x, y);
            case "feed": return o.feed(a[0], y);
            case "text": return o.text(x);
            case "law": return o.law(x, y, z, (int) a[3]);
            case "dawns": return o.dawns(x);
            case "loose": return o.loose(x);
            case "then": return o.then(x, y, z);
            case "upright": return o.upright(x);
            case "adds": return o.adds(x, y);
            case "pardons": return o.pardons(x);
            case "starves": return o.starves(x);
            case "best": return o.best(x, y, z);
            case "brings": return o.brings(x, y, z);
            case "shares": return o.shares(x, y);
            case "odds": return o.odds(x, y, z);
            case "seed": return o.seed(x);
            case "voice": return o.voice(x, y, z);
            case "trace": return o.trace(x);
            case "sheet": return o.sheet(x, y, z);
            case "put": return o.put(x, y, z);
            case "move": return o.move(x, y, z, (int) a[3], (int) a[4]);
            case "ears": return o.ears(x);
            case "judge": return o.judge(x);
            case "image": return o.image();
            case "restore": return o.restore();
            case "tell": return o.tell(x);
            case "check": return o.check();
            case "count": return o.count(x);
            case "told": return o.told(x);
            default: throw new IllegalStateException(name);
        }
    }
}
