/** Objects that hold something everywhere, so that a change of anything shows. */
final class Made {
    private static final int[] KMS = {4, 13, 25, 34, 48, 67};

    private Made() {
    }

    /** Four SHEETS of 8 bits with as many numbers; THE TAPE has room for 8 bytes; an IMAGE that is unlike. */
    static Ask rich(int people, int cells, int wrongs, int numbers) {
        Ask o = new Ask().make("field", cells);
        for (int p = 0; p < people; p++) {
            o.make("person", KMS[p], p % cells).make("change", p, 1, p % 3 - 1).make("change", p, 2, 10 * p + 3);
        }
        for (int w = 0; w < wrongs; w++) {
            int to = w == 3 ? 0 : 1;
            o.make("wrong", w % people == to ? 2 : w % people, to, 1 + 2 * w);
        }
        o.text(1, 0, "w/3+m%2").text(1, 1, "b+e/9");
        o.feed("w-10").make("tell", -1).make("tell", -2).make("seed", 77);
        for (int sheet = 0; sheet <= 3; sheet++) {
            o.make("sheet", sheet, 8, numbers);
            for (int i = 0; i < numbers && i < cells; i++) {
                o.make("put", sheet, i, 10 * sheet + i + 1);
            }
        }
        o.make("voice", 0, 3, 7).make("image");
        return o.make("dawns", 2).make("lay", 1, 0, 33).make("lay", 0, 1, 2).make("change", 0, 2, 50)
                .make("become", 1, 19).make("seed", 99).make("tell", 3).feed("-1");
    }

    /** SHEETS of 8, 16, 32 bits and a missing one; 2 walks upright and has nothing. */
    static Ask unlikeSheets() {
        return rich(6, 6, 8, 3).numbers(1, 16, 1, 2, 300).numbers(2, 32, 1, 2, 301, 4).make("sheet", 3, 0, 0)
                .make("change", 2, 2, 0);
    }

    /** Nobody has room for more: 6 PEOPLE, 8 WRONGS, 50 bytes, 20 numbers that wait. */
    static Ask full() {
        return rich(6, 6, 8, 3).feed("-1-1-1-1-1-1-1-1-1-1-1-1-1-1-1-1-1-1-1-1-1-1").makeTimes(17, "tell", 5);
    }

    /** DAWN is 9960. */
    static Ask late() {
        return new Ask().make("field", 2).people(31, 12).make("wrong", 0, 1, 9).make("change", 0, 1, 1).comeLate()
                .make("lay", 0, 0, 50).make("change", 0, 2, 70).make("change", 1, 2, 70).make("seed", 5).make("image");
    }

    /** Nobody is hungry for long. */
    static Ask sated() {
        Ask o = rich(6, 6, 8, 3);
        for (int p = 0; p < 6; p++) {
            o.make("change", p, 2, 9999);
        }
        return o;
    }

    /** No WRONGS, no IMAGE, nothing said, all SHEETS missing. */
    static Ask plain() {
        return new Ask().people(4, 13, 25).make("change", 0, 1, 1).make("change", 1, 2, 40).make("lay", 3, 1, 4);
    }
}
