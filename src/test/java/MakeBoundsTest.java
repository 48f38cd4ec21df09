import java.util.function.Supplier;

/** Promises 34 to 43: a test of its own for each sentence that names a bound, an empty or a full ROW, or a ROW that becomes itself. */
public final class MakeBoundsTest {
    private static final Sentences told = new Sentences("MakeBoundsTest");
    private static final Supplier<Cutwalks> HOUSE = Sentences::house;
    private static final String NO_ROW = "if there is no such ROW";
    private static final String NO_ROW_BOTH = "if there is no such ROW (both)";
    private static final String NO_ROW_THREE = "if there is no such ROW (all three)";
    private static final String TOO_MANY = "-9 if they would be more than 12";
    private static final String NO_REST = "if m is not 1 to 100, or r not 0 to m - 1";

    public static void main(String[] args) {
        mergeAndWeave(34, "A ROW becomes what is MERGED of two", Cutwalks::merge);
        mergeAndWeave(35, "A ROW becomes what is WEAVED of two", Cutwalks::weave);
        pair();
        through();
        part();
        sift();
        single();
        round();
        roll();
        pass();
        told.end();
    }

    private interface Make {
        int of(Cutwalks x, int row, int first, int second);
    }

    /** No such ROW just outside, nor far outside; each ROW inside is let. */
    private static void rowBounds(int promise, String words, Sentences.Call call) {
        told.promise(promise, words, () -> {
            told.outside(HOUSE.get(), Due.INDEX, Sentences.NO_SUCH, call);
            for (int row = 0; row <= 3; row++) {
                Cutwalks x = HOUSE.get();
                int asked = row;
                told.is(Due.answer(() -> call.on(x, asked)).toString().startsWith("throws"), false);
            }
        });
    }

    private static void eachOfThree(int promise, Make make) {
        rowBounds(promise, NO_ROW_THREE, (x, row) -> make.of(x, row, 0, 3));
        rowBounds(promise, NO_ROW_THREE, (x, row) -> make.of(x, 2, row, 3));
        rowBounds(promise, NO_ROW_THREE, (x, row) -> make.of(x, 2, 0, row));
    }

    private static int many(Make make, int first, int second) {
        Cutwalks x = new Cutwalks();
        x.row(0, 1, 2, first);
        x.row(1, 2, 2, second);
        int answer = make.of(x, 2, 0, 1);
        told.is(x.size(2), Math.max(answer, 0));
        told.is(x.house(3), answer == -9 ? 1 : 0);
        return answer;
    }

    private static void mergeAndWeave(int promise, String words, Make make) {
        told.promise(promise, words, () -> {
            Cutwalks x = Sentences.rows("1 3", "2 4", "9");
            x.open(0, 0, 0);
            x.open(1, 1, 0);
            x.open(2, 2, 0);
            told.is(make.of(x, 2, 0, 1), 4);
            told.is(Sentences.text(x), "1 3/2 4/1 2 3 4/");
            told.is(x.ofWalk(0, 6) + " " + x.ofWalk(1, 6) + " " + x.ofWalk(2, 6), "0 0 1");
        });
        told.promise(promise, words, () -> {
            for (int row = 0; row <= 2; row++) {
                Cutwalks x = Sentences.rows("1 3", "2 4", "");
                x.open(0, row, 0);
                told.is(make.of(x, row, 0, 1), 4);
                told.is(x.text(row, false), "1 2 3 4");
                told.is(x.ofWalk(0, 6), 1);
                told.is(make.of(x, row, row, row), 8);
                told.is(x.text(row, false), "1 1 2 2 3 3 4 4");
            }
        });
        told.promise(promise, "Returns how many it has", () -> {
            told.is(many(make, 0, 0), 0);
            told.is(many(make, 1, 0), 1);
            told.is(many(make, 0, 1), 1);
            told.is(many(make, 6, 6), 12);
            told.is(many(make, 12, 0), 12);
            told.is(many(make, 0, 12), 12);
            told.is(many(make, 11, 1), 12);
            told.is(many(make, 1, 11), 12);
        });
        told.promise(promise, TOO_MANY, () -> {
            told.is(many(make, 7, 6), -9);
            told.is(many(make, 6, 7), -9);
            told.is(many(make, 12, 1), -9);
            told.is(many(make, 1, 12), -9);
            told.is(many(make, 12, 12), -9);
        });
        told.promise(promise, TOO_MANY, () -> {
            Cutwalks x = Sentences.rows("1 2 3 4 5 6", "1 2 3 4 5 6 7");
            x.open(0, 0, 3);
            x.open(1, 1, 3);
            told.is(make.of(x, 1, 1, 1), -9);
            told.is(make.of(x, 0, 0, 1), -9);
            told.is(Sentences.text(x), "1 2 3 4 5 6/1 2 3 4 5 6 7//");
            told.is(x.house(2), 0);
            told.is(x.house(3), 2);
            told.is(make.of(x, 0, 0, 0), 12);
            told.is(x.house(2), 1);
        });
        eachOfThree(promise, make);
    }

    private static void pair() {
        told.promise(36, "A ROW becomes two PAIRED", () -> {
            Cutwalks x = Sentences.rows("1 99 50", "9 1", "7");
            x.open(0, 0, 0);
            x.open(2, 2, 0);
            x.pair(2, 0, 1);
            told.is(Sentences.text(x), "1 99 50/9 1/10 0/");
            told.is(x.ofWalk(0, 6), 0);
            told.is(x.ofWalk(2, 6), 1);
            x.pair(0, 0, 0);
            told.is(x.text(0, false), "2 98 0");
            told.is(x.ofWalk(0, 6), 1);
        });
        told.promise(36, "Returns how many it has", () -> {
            told.is(many(Cutwalks::pair, 0, 0), 0);
            told.is(many(Cutwalks::pair, 12, 0), 0);
            told.is(many(Cutwalks::pair, 0, 12), 0);
            told.is(many(Cutwalks::pair, 12, 1), 1);
            told.is(many(Cutwalks::pair, 1, 12), 1);
            told.is(many(Cutwalks::pair, 12, 11), 11);
            told.is(many(Cutwalks::pair, 12, 12), 12);
        });
        eachOfThree(36, Cutwalks::pair);
    }

    private static int through(String first, String places, String made) {
        Cutwalks x = Sentences.rows(first, places, "50 51");
        int answer = x.through(2, 0, 1);
        told.is(x.text(2, false), made);
        told.is(x.house(3), answer == -9 ? 1 : 0);
        return answer;
    }

    private static void through() {
        told.promise(37, "A ROW becomes a first one led THROUGH the places that are the ITEMS of a second one", () -> {
            Cutwalks x = Sentences.rows("30 10 40", "2 0 2 1", "7");
            x.open(0, 0, 0);
            x.open(1, 1, 0);
            x.open(2, 2, 0);
            told.is(x.through(2, 0, 1), 4);
            told.is(Sentences.text(x), "30 10 40/2 0 2 1/40 30 40 10/");
            told.is(x.ofWalk(0, 6) + " " + x.ofWalk(1, 6) + " " + x.ofWalk(2, 6), "0 0 1");
            told.is(x.through(1, 0, 1), 4);
            told.is(x.text(1, false), "40 30 40 10");
            told.is(x.ofWalk(1, 6), 1);
        });
        told.promise(37, "Returns how many it has", () -> {
            told.is(through("", "", ""), 0);
            told.is(through("30", "", ""), 0);
            told.is(through("30", "0", "30"), 1);
            told.is(through("30", "0 0 0 0 0 0 0 0 0 0 0 0", "30 30 30 30 30 30 30 30 30 30 30 30"), 12);
            told.is(through(Sentences.FULL, "11 0", "12 1"), 2);
        });
        told.promise(37, "-9 if one of these is no PLACE of the first one", () -> {
            told.is(through("", "0", "50 51"), -9);
            told.is(through("30", "1", "50 51"), -9);
            told.is(through("30 10", "0 1 2", "50 51"), -9);
            told.is(through("30 10", "2 0 1", "50 51"), -9);
            told.is(through(Sentences.FULL, "12", "50 51"), -9);
            told.is(through(Sentences.FULL, "0 99", "50 51"), -9);
        });
        told.promise(37, "-9 if one of these is no PLACE of the first one", () -> {
            Cutwalks x = Sentences.rows("0 2", "1 0");
            x.open(0, 0, 0);
            told.is(x.through(0, 0, 0), -9);
            told.is(x.ofWalk(0, 6), 0);
            x.open(1, 1, 0);
            told.is(x.through(1, 1, 1), 2);
            told.is(x.text(1, false), "0 1");
            told.is(x.ofWalk(1, 6), 1);
            x.removeAt(0, 1);
            x.put(1, 1);
            told.is(x.through(1, 0, 1), -9);
            told.is(x.house(3), 2);
        });
        eachOfThree(37, Cutwalks::through);
    }

    private static int part(int from, int to, String made) {
        Cutwalks x = Sentences.rows("5 6 7", "9");
        int many = x.part(1, 0, from, to);
        told.is(Sentences.text(x), "5 6 7/" + made + "//");
        return many;
    }

    private static void part() {
        String bounds = "or not 0, from, to, and how many the other one has, in this sequence rising";
        told.promise(38, "from a PLACE up to another PLACE, which is not in it", () -> {
            told.is(part(0, 1, "5"), 1);
            told.is(part(1, 3, "6 7"), 2);
            told.is(part(2, 3, "7"), 1);
            told.is(part(0, 3, "5 6 7"), 3);
        });
        told.promise(38, "(alike is let)", () -> {
            told.is(part(0, 0, ""), 0);
            told.is(part(2, 2, ""), 0);
            told.is(part(3, 3, ""), 0);
            told.is(HOUSE.get().part(0, 2, 0, 0), 0);
            told.is(HOUSE.get().part(0, 1, 12, 12), 0);
            told.is(HOUSE.get().part(0, 1, 0, 12), 12);
        });
        told.promise(38, bounds, () -> {
            Cutwalks x = HOUSE.get();
            told.outside(x, Due.INDEX, new int[] {-1, 3, 5, 6, Integer.MIN_VALUE, Integer.MAX_VALUE},
                    (y, from) -> y.part(3, 0, from, 2));
            told.outside(x, Due.INDEX, new int[] {6, 1, -1, Integer.MIN_VALUE, Integer.MAX_VALUE},
                    (y, to) -> y.part(3, 0, 2, to));
            told.outside(x, Due.INDEX, new int[] {-1, 1, 13}, (y, to) -> y.part(3, 2, 0, to));
            told.outside(x, Due.INDEX, new int[] {13}, (y, to) -> y.part(3, 1, 12, to));
            told.outside(x, Due.INDEX, new int[] {6, -1, Integer.MAX_VALUE}, (y, both) -> y.part(3, 0, both, both));
            told.fails(x, Due.INDEX, () -> x.part(3, 0, -1, 6));
            told.fails(x, Due.INDEX, () -> x.part(0, 0, 5, 4));
        });
        told.promise(38, "a ROW, or the same", () -> {
            Cutwalks x = Sentences.walking(1, Sentences.FULL);
            told.is(x.part(0, 0, 0, 12), 12);
            told.is(x.text(0, false), Sentences.FULL);
            told.is(x.ofWalk(0, 6), 1);
            told.is(x.part(0, 0, 10, 12), 2);
            told.is(x.text(0, false), "11 12");
            told.is(x.part(0, 0, 0, 1), 1);
            told.is(x.part(0, 0, 1, 1), 0);
            told.is(x.part(0, 0, 0, 0), 0);
        });
        told.promise(38, "Returns how many it has", () ->
                told.insideEach(0, 12, to -> to, HOUSE, (x, to) -> x.part(2, 1, 0, to)));
        rowBounds(38, NO_ROW_BOTH, (x, row) -> x.part(row, 0, 0, 1));
        rowBounds(38, NO_ROW_BOTH, (x, row) -> x.part(0, row, 0, 0));
    }

    private static int sifted(String row, int m, int r, String left) {
        Cutwalks x = Sentences.walking(0, row);
        int went = x.sift(0, m, r);
        told.is(x.text(0, false), left);
        told.is(x.ofWalk(0, 6), went > 0 ? 1 : 0);
        return went;
    }

    private static void sift() {
        told.promise(39, "A ROW is SIFTED", () -> {
            told.is(sifted("", 1, 0, ""), 0);
            told.is(sifted("7", 1, 0, ""), 1);
            told.is(sifted(Sentences.FULL, 1, 0, ""), 12);
            told.is(sifted(Sentences.FULL, 3, 0, "1 2 4 5 7 8 10 11"), 4);
            told.is(sifted(Sentences.FULL, 12, 0, "1 2 3 4 5 6 7 8 9 10 11"), 1);
            told.is(sifted(Sentences.FULL, 12, 1, "2 3 4 5 6 7 8 9 10 11 12"), 1);
        });
        told.promise(39, "Returns how many went", () -> {
            told.is(sifted("0 99 98", 100, 99, "0 98"), 1);
            told.is(sifted("0 99 98", 100, 0, "99 98"), 1);
            told.is(sifted("0 99 98", 99, 0, "98"), 2);
            told.is(sifted("0 99 98", 100, 1, "0 99 98"), 0);
        });
        told.promise(39, NO_REST, () -> {
            told.outside(HOUSE.get(), Due.ARGUMENT, new int[] {0, -1, 101, Integer.MIN_VALUE, Integer.MAX_VALUE},
                    (x, m) -> x.sift(0, m, 0));
            told.outside(HOUSE.get(), Due.ARGUMENT, new int[] {0, 101}, (x, m) -> x.sift(2, m, 0));
            told.is(HOUSE.get().sift(0, 1, 0), 5);
            told.is(HOUSE.get().sift(0, 100, 3), 1);
        });
        told.promise(39, "or r not 0 to m - 1", () -> {
            told.outside(HOUSE.get(), Due.ARGUMENT, new int[] {-1, 1, Integer.MIN_VALUE, Integer.MAX_VALUE},
                    (x, r) -> x.sift(0, 1, r));
            told.outside(HOUSE.get(), Due.ARGUMENT, new int[] {-1, 4, 5}, (x, r) -> x.sift(0, 4, r));
            told.outside(HOUSE.get(), Due.ARGUMENT, new int[] {-1, 100}, (x, r) -> x.sift(0, 100, r));
            told.insideEach(0, 3, r -> new int[] {1, 3, 0, 1}[r], HOUSE, (x, r) -> x.sift(0, 4, r));
            told.is(HOUSE.get().sift(0, 100, 99), 0);
        });
        rowBounds(39, NO_ROW, (x, row) -> x.sift(row, 1, 0));
    }

    private static int singled(String row, String left) {
        Cutwalks x = Sentences.walking(0, row);
        int went = x.single(0);
        told.is(x.text(0, false), left);
        told.is(x.ofWalk(0, 6), went > 0 ? 1 : 0);
        return went;
    }

    private static void single() {
        told.promise(40, "Each ITEM that is the same as the one right ahead of it", () -> {
            told.is(singled("", ""), 0);
            told.is(singled("0", "0"), 0);
            told.is(singled("0 0", "0"), 1);
            told.is(singled("0 1 0", "0 1 0"), 0);
            told.is(singled("5 5 1 2 2", "5 1 2"), 2);
            told.is(singled(Sentences.FULL, Sentences.FULL), 0);
        });
        told.promise(40, "(as that stood ahead of the call) goes", () -> {
            told.is(singled("4 4 4", "4"), 2);
            told.is(singled("4 4 4 4", "4"), 3);
            told.is(singled("4 4 5 4 4", "4 5 4"), 2);
        });
        told.promise(40, "Returns how many went", () -> {
            told.is(singled("99 99 99 99 99 99 99 99 99 99 99 99", "99"), 11);
            told.is(singled("1 1 2 2 3 3 4 4 5 5 6 6", "1 2 3 4 5 6"), 6);
        });
        rowBounds(40, NO_ROW, Cutwalks::single);
    }

    private static void round() {
        told.promise(41, "the last ITEM stands first, and so on", () -> {
            Cutwalks x = HOUSE.get();
            x.round(0);
            x.round(1);
            x.round(3);
            told.is(Sentences.text(x), "5 1 4 1 3/12 11 10 9 8 7 6 5 4 3 2 1//7");
            x.round(1);
            told.is(x.text(1, false), Sentences.FULL);
            told.is(Sentences.rows("1 2").round(0), 2);
        });
        told.promise(41, "(no ITEM is put in or taken out)", () -> {
            Cutwalks x = HOUSE.get();
            x.forth(0);
            x.round(0);
            told.is(Sentences.stand(x, 0), "5 1 4|1 3|1");
            told.is(x.remove(0), 2);
            told.is(x.text(0, false), "5 1 1 3");
            x.round(2);
            x.round(3);
            told.is(x.house(2), 0);
        });
        told.promise(41, "Returns the first ITEM then; NONE without", () -> {
            told.insideEach(0, 3, row -> new int[] {5, 12, -1, 7}[row], HOUSE, Cutwalks::round);
            Cutwalks x = HOUSE.get();
            x.wipe(1);
            told.is(x.round(1), -1);
            told.is(x.house(3), 0);
        });
        rowBounds(41, NO_ROW, Cutwalks::round);
    }

    private static void roll() {
        told.promise(42, "So many times: the first ITEM goes, and comes to the end", () -> {
            Cutwalks x = Sentences.rows("1 2 3");
            x.roll(0, 1);
            told.is(x.text(0, false), "2 3 1");
            x.roll(0, 2);
            told.is(x.text(0, false), "1 2 3");
            x.roll(0, 24);
            told.is(x.text(0, false), "1 2 3");
            x.roll(0, 23);
            told.is(x.text(0, false), "3 1 2");
            x.row(0, 1, 1, 12);
            x.roll(0, 13);
            told.is(x.text(0, false), "2 3 4 5 6 7 8 9 10 11 12 1");
        });
        told.promise(42, "(if there is one; this takes out and puts in, also of one ITEM alone)", () -> {
            Cutwalks x = HOUSE.get();
            x.roll(2, 24);
            x.roll(3, 0);
            told.is(x.house(2), 0);
            x.roll(3, 1);
            told.is(x.text(3, false), "7");
            told.is(x.ofWalk(3, 6), 1);
            x.roll(1, 12);
            told.is(x.text(1, false), Sentences.FULL);
            told.is(x.ofWalk(1, 6), 1);
            told.is(x.house(2), 2);
        });
        told.promise(42, "Returns the first ITEM then; NONE without", () -> {
            told.insideEach(0, 24, many -> many % 12 + 1, HOUSE, (x, many) -> x.roll(1, many));
            told.inside(0, 24, -1, HOUSE, (x, many) -> x.roll(2, many));
            told.inside(0, 24, 7, HOUSE, (x, many) -> x.roll(3, many));
        });
        told.promise(42, "if many is not 0 to 24", () -> {
            for (int row = 0; row <= 3; row++) {
                int asked = row;
                told.outside(HOUSE.get(), Due.ARGUMENT, new int[] {-1, 25, Integer.MIN_VALUE, Integer.MAX_VALUE},
                        (x, many) -> x.roll(asked, many));
            }
            told.is(HOUSE.get().roll(0, 0), 3);
            told.is(HOUSE.get().roll(0, 24), 5);
        });
        rowBounds(42, NO_ROW, (x, row) -> x.roll(row, 1));
    }

    private static int passed(String row, String other, int item, String left) {
        Cutwalks x = Sentences.rows(row, other);
        int went = x.pass(0, 1, item);
        told.is(Sentences.text(x), left + "//");
        told.is(x.house(3), went == -9 ? 1 : 0);
        return went;
    }

    private static void pass() {
        told.promise(43, "The ITEMS of a ROW that are less than one go, and come, in their sequence, to the end of another one",
                () -> {
                    told.is(passed("5 1 7 2", "50", 5, "5 7/50 1 2"), 2);
                    told.is(passed("5 1 7 2", "50", 6, "7/50 5 1 2"), 3);
                    told.is(passed("5 1 7 2", "50", 8, "/50 5 1 7 2"), 4);
                    told.is(passed("5 1 7 2", "", 2, "5 7 2/1"), 1);
                });
        told.promise(43, "Returns how many went", () -> {
            told.is(passed("0 0", "9", 0, "0 0/9"), 0);
            told.is(passed("0 0", "9", 1, "/9 0 0"), 2);
            told.is(passed("98 99", "", 99, "99/98"), 1);
            told.is(passed("99", "", 99, "99/"), 0);
            told.is(passed("", "", 99, "/"), 0);
            told.is(passed("", Sentences.FULL, 99, "/" + Sentences.FULL), 0);
            told.is(passed("50", Sentences.FULL, 50, "50/" + Sentences.FULL), 0);
        });
        told.promise(43, "-9 if the other one would have more than 12", () -> {
            told.is(passed(Sentences.FULL, "", 99, "/" + Sentences.FULL), 12);
            told.is(passed(Sentences.FULL, "0", 99, Sentences.FULL + "/0"), -9);
            told.is(passed(Sentences.FULL, "0", 12, "12/0 1 2 3 4 5 6 7 8 9 10 11"), 11);
            told.is(passed("12 50", "1 2 3 4 5 6 7 8 9 10 11", 50, "50/" + Sentences.FULL), 1);
            told.is(passed("12 50", "1 2 3 4 5 6 7 8 9 10 11", 51, "12 50/1 2 3 4 5 6 7 8 9 10 11"), -9);
            told.is(passed("50", Sentences.FULL, 51, "50/" + Sentences.FULL), -9);
        });
        told.promise(43, "-9 if the other one would have more than 12", () -> {
            Cutwalks x = HOUSE.get();
            told.is(x.pass(0, 1, 99), -9);
            told.is(x.pass(3, 1, 8), -9);
            told.is(x.house(2), 0);
            told.is(x.house(3), 2);
            told.is(x.pass(3, 1, 7), 0);
            told.is(x.house(2), 0);
            told.is(x.pass(3, 2, 8), 1);
            told.is(x.house(2), 2);
        });
        told.promise(43, "if both are the same", () -> {
            for (int row = 0; row <= 3; row++) {
                told.outside(HOUSE.get(), Due.ARGUMENT, new int[] {row}, (x, same) -> x.pass(same, same, 9));
                told.outside(HOUSE.get(), Due.ARGUMENT, new int[] {row}, (x, same) -> x.pass(same, same, 100));
            }
        });
        told.promise(43, "or item is not 0 to 99", () -> {
            told.outside(HOUSE.get(), Due.ARGUMENT, Sentences.NO_ITEM, (x, item) -> x.pass(0, 2, item));
            told.outside(HOUSE.get(), Due.ARGUMENT, Sentences.NO_ITEM, (x, item) -> x.pass(2, 0, item));
            told.is(HOUSE.get().pass(0, 2, 0), 0);
            told.is(HOUSE.get().pass(0, 2, 99), 5);
        });
        told.promise(43, NO_ROW_BOTH, () -> {
            told.outside(HOUSE.get(), Due.INDEX, Sentences.NO_SUCH, (x, row) -> x.pass(row, 2, 9));
            told.outside(HOUSE.get(), Due.INDEX, Sentences.NO_SUCH, (x, row) -> x.pass(row, row, 9));
            told.insideEach(0, 3, row -> new int[] {5, 8, -1, 1}[row], HOUSE,
                    (x, row) -> row == 2 ? -1 : x.pass(row, 2, 9));
        });
        told.promise(43, NO_ROW_BOTH, () -> {
            told.outside(HOUSE.get(), Due.INDEX, Sentences.NO_SUCH, (x, other) -> x.pass(3, other, 9));
            told.insideEach(0, 2, other -> new int[] {1, -9, 1}[other], HOUSE, (x, other) -> x.pass(3, other, 9));
        });
    }
}
