import java.util.ArrayList;
import java.util.List;

/** One number of a call, with the least and the most that it may be; all else in the call is in order. */
final class Range {
    final String name;
    final int place;
    final int least;
    final int most;
    private final long[] base;

    private Range(String name, int place, int least, int most, long... base) {
        this.name = name;
        this.place = place;
        this.least = least;
        this.most = most;
        this.base = base;
    }

    long[] with(int v) {
        long[] a = base.clone();
        a[place] = v;
        return a;
    }

    /** The first ones beyond, and the very last ones, which may wrap. */
    List<Integer> beyond() {
        List<Integer> all = new ArrayList<>();
        all.add(least - 1);
        all.add(most + 1);
        all.add(Integer.MIN_VALUE);
        all.add(Integer.MAX_VALUE);
        return all;
    }

    /**
     * Every number that a call takes and that the document bounds by BEYOND, and by nothing that is asked ahead.
     * WRONG 0 is one done to 1; all SHEETS have as many numbers.
     */
    static List<Range> all(int people, int cells, int wrongs, int numbers) {
        List<Range> all = new ArrayList<>();
        int last = people - 1;
        add(all, "field", 0, 2, 10, 2);
        add(all, "lay", 0, 0, cells - 1, 0, 0, 0);
        add(all, "lay", 1, 0, 1, 0, 0, 0);
        add(all, "lay", 2, 0, 999, 0, 0, 0);
        add(all, "lay", 2, 0, 9, 0, 1, 0);
        add(all, "ofCell", 0, 0, cells - 1, 0, 0);
        add(all, "ofCell", 1, 0, 2, 0, 0);
        add(all, "person", 0, 0, 69, 0, 0);
        add(all, "person", 1, 0, cells - 1, 0, 0);
        add(all, "ofPerson", 0, 0, last, 0, 0);
        add(all, "ofPerson", 1, 0, 8, 0, 0);
        add(all, "change", 0, 0, last, 0, 0, 0);
        add(all, "change", 1, 0, 2, 0, 0, 0);
        add(all, "change", 2, 0, cells - 1, 0, 0, 0);
        add(all, "change", 2, -1, 1, 0, 1, 0);
        add(all, "change", 2, 0, 9999, 0, 2, 0);
        add(all, "become", 0, 0, last, 0, 0);
        add(all, "become", 1, 0, 69, 0, 0);
        add(all, "as", 0, 0, last, 0, 0);
        add(all, "as", 1, 0, 6, 0, 0);
        add(all, "wrong", 0, 0, last, 0, 1, 1);
        add(all, "wrong", 1, 0, last, 1, 0, 1);
        add(all, "wrong", 2, 1, 20, 0, 1, 1);
        add(all, "ofWrong", 0, 0, wrongs - 1, 0, 0);
        add(all, "ofWrong", 1, 0, 2, 0, 0);
        add(all, "forgive", 0, 0, wrongs - 1, 0);
        add(all, "borrow", 0, 0, wrongs - 1, 0, 2);
        add(all, "borrow", 1, 0, last, 0, 0);
        add(all, "feed", 1, 1, 8, 'w', 1);
        add(all, "text", 0, 0, 1, 0);
        add(all, "law", 0, 0, 1, 0, 0, 0, 0);
        add(all, "dawns", 0, 1, 60, 1);
        add(all, "loose", 0, 1, 40, 1);
        addThoughts(all, last);
        addSheets(all, last, numbers);
        add(all, "count", 0, 0, 10, 0);
        add(all, "told", 0, 1, 5, 1);
        return all;
    }

    private static void addThoughts(List<Range> all, int last) {
        add(all, "then", 0, 0, 60, 0, 0, 0);
        add(all, "then", 1, 0, last, 0, 0, 0);
        add(all, "then", 2, 0, 1, 0, 0, 0);
        add(all, "upright", 0, 0, 1, 0);
        add(all, "adds", 0, 0, last, 0, 0);
        add(all, "adds", 1, 0, 60, 0, 0);
        add(all, "pardons", 0, 0, 20, 0);
        add(all, "starves", 0, 0, 60, 0);
        add(all, "best", 0, 0, last, 0, 0, 0);
        add(all, "best", 1, 0, 60, 0, 0, 0);
        add(all, "best", 2, 0, 1, 0, 0, 0);
        add(all, "brings", 0, 0, 3, 0, 0, 0);
        add(all, "brings", 1, 0, last, 0, 0, 0);
        add(all, "brings", 2, 0, 1, 0, 0, 0);
        add(all, "shares", 0, 1, 30, 1, -1);
        add(all, "shares", 1, -1, last, 1, -1);
        add(all, "odds", 0, 0, last, 0, 0, 0);
        add(all, "odds", 1, 0, 60, 0, 0, 0);
        add(all, "odds", 2, 0, 1, 0, 0, 0);
    }

    private static void addSheets(List<Range> all, int last, int numbers) {
        add(all, "voice", 0, 0, last, 0, 0, 0);
        add(all, "voice", 1, 0, 3, 0, 0, 0);
        add(all, "sheet", 0, 0, 3, 0, 8, 1);
        add(all, "put", 0, 0, 3, 0, 0, 0);
        add(all, "put", 1, 0, numbers - 1, 0, 0, 0);
        add(all, "move", 0, 0, 3, 0, 0, 1, 0, 1);
        add(all, "move", 1, 0, numbers - 1, 0, 0, 1, 0, 1);
        add(all, "move", 2, 0, 3, 0, 0, 1, 0, 1);
        add(all, "move", 3, 0, numbers - 1, 0, 0, 1, 0, 1);
        add(all, "move", 4, 0, numbers, 0, 0, 1, 0, 1);
        add(all, "ears", 0, 0, 3, 0);
        add(all, "judge", 0, 0, 3, 0);
    }

    private static void add(List<Range> all, String name, int place, int least, int most, long... base) {
        all.add(new Range(name, place, least, most, base));
    }
}
