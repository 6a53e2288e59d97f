import java.util.List;
import java.util.function.Supplier;

/** "One that answers an ERROR changes nothing but what told() tells"; and thoughts change nothing at all. */
public final class RefusalTest {
    private static final int MAX = Ask.MAX;
    private static final int MIN = Ask.MIN;

    private RefusalTest() {
    }

    public static void main(String[] args) {
        beyondWithRoom();
        beyondWithoutRoom();
        beyondWithNobody();
        beyondByOthers();
        beyondWherePlacesAreUsed();
        none();
        state();
        full();
        kind();
        faultIsNoError();
        thoughts();
        questions();
        Due.end();
    }

    private static void beyond(String part, Supplier<Ask> made, int people, int cells, int wrongs, int numbers) {
        Due.part(part);
        for (Range r : Range.all(people, cells, wrongs, numbers)) {
            for (int v : r.beyond()) {
                Twins.refused(made, Ask.BEYOND, r.name, r.with(v));
            }
        }
    }

    private static void beyondWithRoom() {
        beyond("BEYOND, with room", () -> Made.rich(3, 4, 3, 2), 3, 4, 3, 2);
    }

    /** Here FULL and STATE would be told, were BEYOND not asked first. */
    private static void beyondWithoutRoom() {
        beyond("BEYOND, without room", Made::full, 6, 6, 8, 3);
    }

    private static void beyondWithNobody() {
        Due.part("BEYOND, nobody there");
        String[] ofOne = {"ofPerson", "change", "become", "as", "adds", "best", "odds", "voice"};
        for (String name : ofOne) {
            Twins.refused(Ask::new, Ask.BEYOND, name, new long[Calls.arity(name)]);
        }
        Twins.refused(Ask::new, Ask.BEYOND, "then", 0, 0, 0);
        Twins.refused(Ask::new, Ask.BEYOND, "brings", 0, 0, 0);
        Twins.refused(Ask::new, Ask.BEYOND, "shares", 1, 0);
        Twins.refused(Ask::new, Ask.BEYOND, "wrong", 0, 1, 1);
        Twins.refused(Ask::new, Ask.BEYOND, "ofWrong", 0, 0);
        Twins.refused(Ask::new, Ask.BEYOND, "forgive", 0);
        Twins.refused(Ask::new, Ask.BEYOND, "borrow", 0, 0);
    }

    private static void beyondByOthers() {
        Due.part("BEYOND, by others in the call");
        Supplier<Ask> made = Made::unlikeSheets;
        for (int p = 0; p < 6; p++) {
            Twins.refused(made, Ask.BEYOND, "wrong", p, p, 1);
        }
        Twins.refused(() -> Made.rich(3, 4, 3, 2), Ask.BEYOND, "wrong", 2, 2, 20);
        for (int w = 0; w < 8; w++) {
            Twins.refused(made, Ask.BEYOND, "borrow", w, w == 3 ? 0 : 1);
        }
        int[] noBits = {-32, -8, -1, 1, 4, 7, 9, 12, 15, 17, 24, 31, 33, 64, MAX, MIN};
        for (int bits : noBits) {
            Twins.refused(made, Ask.BEYOND, "sheet", 0, bits, 1);
            Twins.refused(made, Ask.BEYOND, "sheet", 3, bits, -1);
        }
        for (int bits = 8; bits <= 32; bits *= 2) {
            Twins.refused(made, Ask.BEYOND, "sheet", 1, bits, 41);
            Twins.refused(made, Ask.BEYOND, "sheet", 3, bits, MAX);
        }
        Twins.refused(made, Ask.BEYOND, "sheet", 4, 0, 0);
        Twins.refused(made, Ask.BEYOND, "sheet", -1, 8, -1);
    }

    private static void beyondWherePlacesAreUsed() {
        Due.part("BEYOND, numbers that don't stand there");
        Supplier<Ask> made = Made::unlikeSheets;
        int[] sizes = {3, 3, 4};
        for (int sheet = 0; sheet < 3; sheet++) {
            int n = sizes[sheet];
            long[][] parts = {{0, 0, n + 1}, {1, 0, n}, {0, 1, n}, {n, 0, 1}, {0, n, 1}, {n + 1, 0, 0}, {0, n + 1, 0},
                {-1, 0, 1}, {0, -1, 1}, {0, 0, -1}, {-1, -1, 0}, {1, 0, MAX}, {MAX, 0, 1}, {0, MAX, MAX}, {MIN, 0, 0},
                {0, MIN, MIN}, {1, 1, MIN}, {MAX, MAX, MAX}};
            for (long[] p : parts) {
                Twins.refused(made, Ask.BEYOND, "move", sheet, p[0], sheet, p[1], p[2]);
            }
            Twins.refused(made, Ask.BEYOND, "put", sheet, n, 1);
            Twins.refused(made, Ask.BEYOND, "put", sheet, -1, 1);
        }
    }

    private static void none() {
        Due.part("NONE");
        Supplier<Ask> made = Made::unlikeSheets;
        Twins.refused(Made::sated, Ask.NONE, "upright", 0);
        Twins.refused(Made::sated, Ask.NONE, "upright", 1);
        Twins.refused(made, Ask.NONE, "adds", 2, 1);
        Twins.refused(made, Ask.NONE, "adds", 2, 60);
        Twins.refused(made, Ask.NONE, "pardons", 1);
        Twins.refused(made, Ask.NONE, "pardons", 20);
        Twins.refused(made, Ask.NONE, "brings", 3, 0, 0);
        Twins.refused(made, Ask.NONE, "brings", 3, 5, 1);
        Twins.refused(made, Ask.NONE, "brings", 2, 2, 1);
        for (int i : new int[] {4, 40, -1, MAX, MIN}) {
            Twins.refused(made, Ask.NONE, "trace", i);
        }
        Twins.refused(made, Ask.NONE, "put", 3, 0, 1);
        Twins.refused(made, Ask.NONE, "put", 3, -1, 1);
        Twins.refused(made, Ask.NONE, "move", 0, 0, 3, 0, 1);
        Twins.refused(made, Ask.NONE, "move", 3, 0, 0, 0, 1);
        Twins.refused(made, Ask.NONE, "move", 3, 0, 3, 0, 0);
        Twins.refused(made, Ask.NONE, "move", 1, -1, 3, 0, -1);
        Twins.refused(made, Ask.NONE, "ears", 3);
        Twins.refused(made, Ask.NONE, "judge", 3);
        Twins.refused(Made::plain, Ask.NONE, "restore");
        Twins.refused(Ask::new, Ask.NONE, "restore");
        Twins.refused(Ask::new, Ask.NONE, "trace", 0);
        Twins.refused(Ask::new, Ask.NONE, "upright", 0);
    }

    private static void state() {
        Due.part("STATE");
        for (int n : new int[] {2, 6, 10}) {
            Twins.refused(Made::unlikeSheets, Ask.STATE, "field", n);
        }
        Twins.refused(Made::late, Ask.STATE, "dawns", 40);
        Twins.refused(Made::late, Ask.STATE, "dawns", 60);
        Twins.refused(Made::late, Ask.STATE, "loose", 40);
        Supplier<Ask> last = () -> Made.late().make("dawns", 39);
        Twins.refused(last, Ask.STATE, "dawns", 1);
        Twins.refused(last, Ask.STATE, "loose", 1);
        Twins.refused(Made::plain, Ask.STATE, "odds", 0, 0, 0);
        Twins.refused(Made::plain, Ask.STATE, "odds", 2, 60, 1);
        for (int bits = 8; bits <= 32; bits *= 2) {
            Twins.refused(Made::unlikeSheets, Ask.STATE, "sheet", 0, bits, -1);
            Twins.refused(Made::unlikeSheets, Ask.STATE, "sheet", 3, bits, MIN);
        }
    }

    private static void full() {
        Due.part("FULL");
        Twins.refused(Made::full, Ask.FULL, "person", 0, 0);
        Twins.refused(Made::full, Ask.FULL, "person", 69, 5);
        Twins.refused(Made::full, Ask.FULL, "wrong", 0, 1, 1);
        Twins.refused(Made::full, Ask.FULL, "wrong", 5, 4, 20);
        Twins.refused(Made::full, Ask.FULL, "feed", 'w', 1);
        Twins.refused(Made::full, Ask.FULL, "feed", -1L, 8);
        Twins.refused(Made::full, Ask.FULL, "tell", 0);
        // 6 bytes are there, and 36 more: a byte fewer than 8 has no room in the rest.
        Supplier<Ask> nearly = () -> Made.rich(3, 4, 3, 2).feed("-1-1-1-1-1-1-1-1-1-1-1-1-1-1-1-1-1-1+");
        Twins.refused(nearly, Ask.FULL, "feed", -1L, 8);
    }

    private static void kind() {
        Due.part("KIND");
        // By numbers the PEOPLE there are GLEANER, SISTER, CURATE, SINNER, LOVER, PROFESSIONAL.
        String[] of = {"0", "01", "02", "03", "014", "036"};
        for (int p = 0; p < 6; p++) {
            for (int kind = 0; kind <= 6; kind++) {
                if (of[p].indexOf('0' + kind) < 0) {
                    Twins.refused(Made::unlikeSheets, Ask.KIND, "as", p, kind);
                }
            }
        }
        for (int one = 0; one < 3; one++) {
            for (int other = 0; other < 3; other++) {
                if (one != other) {
                    Twins.refused(Made::unlikeSheets, Ask.KIND, "move", one, 0, other, 0, 1);
                    Twins.refused(Made::unlikeSheets, Ask.KIND, "move", one, -1, other, 9, -1);
                }
            }
        }
    }

    /** A FAULT empties THE TAPE, and leaves the TEXT and all ERRORS as they are. */
    private static void faultIsNoError() {
        Due.part("FAULT");
        Ask o = Made.unlikeSheets().text(1, 0, "-w+15").text(1, 1, "b*3");
        int[] before = new int[6];
        for (int k = 1; k <= 5; k++) {
            before[k] = o.call("told", k);
        }
        o.text(-12, 0, "w+").due(0, "count", 7).due(4, "law", 0, 11, 0, 0);
        o.text(-10, 1, "w").due(0, "count", 7).due(33, "law", 1, 11, 0, 0);
        o.text(-10, 0, "").text(-10, 1, "").due(33, "law", 1, 11, 0, 0);
        for (int k = 1; k <= 5; k++) {
            o.due(before[k], "told", k);
        }
    }

    private static void thoughts() {
        Due.part("only thought");
        for (Supplier<Ask> made : List.<Supplier<Ask>>of(Made::sated, Made::late)) {
            for (int n : new int[] {0, 1, 20}) {
                Twins.onlyAsked(made, "pardons", n);
            }
            for (int n : new int[] {0, 1, 60}) {
                Twins.onlyAsked(made, "then", n, 1, 0);
                Twins.onlyAsked(made, "then", n, 0, 1);
                Twins.onlyAsked(made, "starves", n);
                Twins.onlyAsked(made, "best", 0, n, 0);
                Twins.onlyAsked(made, "best", 1, n, 1);
                Twins.onlyAsked(made, "odds", 1, n, 0);
                Twins.onlyAsked(made, "odds", 0, n, 1);
            }
            Twins.onlyAsked(made, "adds", 0, 10);
            Twins.onlyAsked(made, "shares", 30, -1);
            Twins.onlyAsked(made, "shares", 1, 1);
        }
        Twins.onlyAsked(Made::unlikeSheets, "upright", 0);
        Twins.onlyAsked(Made::unlikeSheets, "upright", 1);
        for (int sheet = 0; sheet <= 2; sheet++) {
            Twins.onlyAsked(Made::unlikeSheets, "brings", sheet, 0, 0);
        }
        Twins.onlyAsked(() -> Made.unlikeSheets().make("sheet", 0, 8, 0), "brings", 0, 0, 1);
    }

    private static void questions() {
        Due.part("only asked");
        Supplier<Ask> made = Made::unlikeSheets;
        for (int what = 0; what <= 8; what++) {
            Twins.onlyAsked(made, "ofPerson", 5, what);
        }
        for (int what = 0; what <= 2; what++) {
            Twins.onlyAsked(made, "ofCell", 5, what);
            Twins.onlyAsked(made, "ofWrong", 7, what);
            Twins.onlyAsked(made, "judge", what);
        }
        for (int what = 0; what <= 10; what++) {
            Twins.onlyAsked(made, "count", what);
        }
        for (int k = 1; k <= 5; k++) {
            Twins.onlyAsked(made, "told", k);
        }
        Twins.onlyAsked(made, "as", 5, 3);
        Twins.onlyAsked(made, "law", 0, MAX, MIN, -1);
        Twins.onlyAsked(made, "law", 1, MIN, MAX, -1);
        Twins.onlyAsked(made, "trace", 3);
    }
}
