import java.util.function.Supplier;

/** Promises 19 to 33: a test of its own for each sentence that names a bound, an end, a STALE WALK or one that is not there. */
public final class WalkBoundsTest {
    private static final Sentences told = new Sentences("WalkBoundsTest");
    private static final Supplier<Cutwalks> HOUSE = Sentences::house;
    private static final String NO_WALK = "if there is no such WALK";
    private static final String NOT_NOW = "if there is no such WALK now";
    private static final String STALE = "-9 if it is STALE";
    private static final String FULL_ROW = "or the ROW has 12 ITEMS";
    private static final String LAST_NONE = "or LAST is 0";
    private static final String NO_ITEM = "if item is not 0 to 99";
    private static final String NO_REST = "if m is not 1 to 100, or r not 0 to m - 1";

    public static void main(String[] args) {
        open();
        twin();
        shut();
        forthAndBack();
        go();
        seek();
        add();
        set();
        remove();
        thin();
        fit();
        ofWalk();
        aheadAndBehind();
        told.end();
    }

    /** No such WALK just outside, nor far outside; each WALK inside is let. */
    private static void walkBounds(int promise, String words, Sentences.Call call) {
        told.promise(promise, words, () -> {
            told.outside(HOUSE.get(), Due.INDEX, Sentences.NO_SUCH, call);
            for (int walk = 0; walk <= 3; walk++) {
                Cutwalks x = HOUSE.get();
                int asked = walk;
                told.is(Due.answer(() -> call.on(x, asked)).toString().startsWith("throws"), false);
            }
        });
    }

    /** Not there at first, nor after it went, be it STALE then or not. */
    private static void notThere(int promise, String words, Sentences.Call call) {
        told.promise(promise, words, () -> {
            Cutwalks none = Sentences.rows("3 1 4 1 5", Sentences.FULL);
            Cutwalks gone = HOUSE.get();
            gone.put(3, 9);
            told.is(gone.ofWalk(3, 6), 1);
            for (int walk = 0; walk <= 3; walk++) {
                gone.shut(walk);
                int asked = walk;
                told.fails(none, Due.STATE, () -> call.on(none, asked));
                told.fails(gone, Due.STATE, () -> call.on(gone, asked));
            }
        });
    }

    /** A STALE WALK is told -9 of, which is counted, and changes nothing else; opened anew it is not STALE. */
    private static void stale(int promise, String words, Sentences.Call call) {
        told.promise(promise, words, () -> {
            Cutwalks x = HOUSE.get();
            x.forth(0);
            x.put(0, 9);
            String rows = Sentences.text(x);
            told.is(call.on(x, 0), -9);
            told.is(x.house(3), 1);
            told.is(call.on(x, 0), -9);
            told.is(x.house(3), 2);
            told.is(Sentences.text(x), rows);
            told.is(x.house(2), 1);
            x.open(0, 0, 3);
            x.forth(0);
            told.is(call.on(x, 0).equals(-9), false);
            told.is(x.house(3), 2);
        });
    }

    private static void itemBounds(int promise, Sentences.Call call) {
        told.promise(promise, NO_ITEM, () -> {
            Cutwalks x = HOUSE.get();
            x.forth(0);
            told.outside(x, Due.ARGUMENT, Sentences.NO_ITEM, call);
            for (int item : new int[] {0, 99}) {
                Cutwalks let = HOUSE.get();
                let.forth(0);
                told.is(Due.answer(() -> call.on(let, item)).toString().startsWith("throws"), false);
                told.is(let.house(3), 0);
            }
        });
    }

    private static void open() {
        told.promise(19, "A WALK begins", () -> {
            Cutwalks x = Sentences.rows("3 1");
            x.open(3, 0, 1);
            told.is(Sentences.stand(x, 3), "3|1|0");
            told.is(x.ofWalk(3, 0), 0);
            told.is(x.house(1), 1);
        });
        told.promise(19, "(instead of the one that was there)", () -> {
            Cutwalks x = HOUSE.get();
            x.forth(0);
            x.open(0, 0, 0);
            told.is(Sentences.stand(x, 0), "|3 1 4 1 5|0");
            x.open(0, 3, 1);
            told.is(Sentences.stand(x, 0), "7||0");
            told.is(x.ofWalk(0, 0), 3);
            told.is(x.house(1), 4);
            x.put(3, 9);
            told.is(x.ofWalk(0, 6), 1);
            x.open(0, 3, 2);
            told.is(Sentences.stand(x, 0), "7 9||0");
        });
        told.promise(19, "Returns how many ITEMS are BEHIND it", () -> {
            told.insideEach(0, 12, cut -> 12 - cut, HOUSE, (x, cut) -> x.open(0, 1, cut));
            told.is(HOUSE.get().open(0, 2, 0), 0);
            told.is(HOUSE.get().open(0, 3, 0), 1);
            told.is(HOUSE.get().open(0, 3, 1), 0);
        });
        told.promise(19, "or cut is not 0 to how many ITEMS it has", () -> {
            Cutwalks x = HOUSE.get();
            told.outside(x, Due.INDEX, new int[] {-1, 6, 12, Integer.MIN_VALUE, Integer.MAX_VALUE},
                    (y, cut) -> y.open(0, 0, cut));
            told.outside(x, Due.INDEX, new int[] {-1, 13}, (y, cut) -> y.open(0, 1, cut));
            told.outside(x, Due.INDEX, new int[] {-1, 1}, (y, cut) -> y.open(0, 2, cut));
            told.insideEach(0, 5, cut -> 5 - cut, HOUSE, (y, cut) -> y.open(0, 0, cut));
        });
        walkBounds(19, "if there is no such WALK or ROW", (x, walk) -> x.open(walk, 0, 0));
        told.promise(19, "if there is no such WALK or ROW", () -> {
            told.outside(HOUSE.get(), Due.INDEX, Sentences.NO_SUCH, (x, row) -> x.open(0, row, 0));
            told.insideEach(0, 3, row -> new int[] {5, 12, 0, 1}[row], HOUSE, (x, row) -> x.open(0, row, 0));
        });
    }

    private static void twin() {
        told.promise(20, "A WALK begins at the ROW and the CUT of another one, with LAST 0", () -> {
            Cutwalks x = HOUSE.get();
            x.forth(0);
            told.is(x.twin(3, 0), 3);
            told.is(x.ofWalk(3, 0), 0);
            told.is(Sentences.stand(x, 3), "3 1 4|1 5|0");
            told.is(Sentences.stand(x, 0), "3 1 4|1 5|1");
        });
        told.promise(20, "(instead of the one that was there)", () -> {
            Cutwalks x = HOUSE.get();
            x.put(3, 9);
            told.is(x.twin(3, 1), 12);
            told.is(Sentences.stand(x, 3), Sentences.FULL + "||0");
            told.is(x.house(1), 4);
            x.shut(3);
            told.is(x.twin(3, 1), 12);
            told.is(x.house(1), 4);
        });
        told.promise(20, "another one, or the same", () -> {
            Cutwalks x = HOUSE.get();
            x.forth(0);
            told.is(x.twin(0, 0), 3);
            told.is(Sentences.stand(x, 0), "3 1 4|1 5|0");
            x.back(0);
            told.is(x.twin(0, 0), 2);
            told.is(Sentences.stand(x, 0), "3 1|4 1 5|0");
        });
        told.promise(20, "Returns its CUT", () -> {
            told.is(HOUSE.get().twin(0, 1), 12);
            told.is(HOUSE.get().twin(0, 2), 0);
            told.is(HOUSE.get().twin(0, 3), 0);
            told.is(HOUSE.get().twin(3, 0), 2);
        });
        stale(20, "-9 if that is STALE", (x, other) -> x.twin(2, other));
        stale(20, "-9 if that is STALE", (x, other) -> x.twin(other, other));
        told.promise(20, "-9 if that is STALE", () -> {
            Cutwalks x = HOUSE.get();
            x.put(0, 9);
            told.is(x.twin(3, 0), -9);
            told.is(Sentences.stand(x, 3), "|7|0");
            told.is(x.ofWalk(3, 0), 3);
            x.shut(3);
            told.is(x.twin(3, 0), -9);
            told.is(Sentences.stand(x, 3), "not there");
            told.is(x.twin(0, 1), 12);
            told.is(x.house(3), 2);
        });
        walkBounds(20, "if there is no such WALK (both)", (x, walk) -> x.twin(walk, 0));
        walkBounds(20, "if there is no such WALK (both)", (x, other) -> x.twin(0, other));
        notThere(20, "if there is no other WALK now", (x, other) -> x.twin(other, other));
        told.promise(20, "if there is no other WALK now", () -> {
            Cutwalks x = HOUSE.get();
            x.shut(3);
            told.fails(x, Due.STATE, () -> x.twin(0, 3));
            told.is(x.twin(3, 0), 2);
        });
    }

    private static void shut() {
        told.promise(21, "A WALK goes", () -> {
            Cutwalks x = HOUSE.get();
            x.shut(0);
            told.is(Sentences.stand(x, 0), "not there");
            told.is(x.house(1), 3);
            told.is(x.house(0), 18);
        });
        told.promise(21, "Returns 1 if it was there, otherwise 0", () -> {
            Cutwalks x = HOUSE.get();
            x.put(3, 9);
            for (int walk = 0; walk <= 3; walk++) {
                told.is(x.shut(walk), 1);
                told.is(x.shut(walk), 0);
                told.is(new Cutwalks().shut(walk), 0);
            }
            told.is(x.house(3), 0);
        });
        walkBounds(21, NO_WALK, Cutwalks::shut);
    }

    private static void forthAndBack() {
        told.promise(22, "Returns the ITEM; NONE without", () -> {
            Cutwalks x = Sentences.walking(11, Sentences.FULL);
            told.is(x.forth(0), 12);
            told.is(x.forth(0), -1);
            told.is(x.ofWalk(0, 1), 12);
            Cutwalks empty = Sentences.walking(0, "");
            told.is(empty.forth(0), -1);
            told.is(empty.house(3), 0);
        });
        stale(22, STALE, Cutwalks::forth);
        walkBounds(22, NO_WALK, Cutwalks::forth);
        notThere(22, NOT_NOW, Cutwalks::forth);
        told.promise(23, "Returns the ITEM; NONE without", () -> {
            Cutwalks x = Sentences.walking(1, Sentences.FULL);
            told.is(x.back(0), 1);
            told.is(x.back(0), -1);
            told.is(x.ofWalk(0, 1), 0);
            Cutwalks empty = Sentences.walking(0, "");
            told.is(empty.back(0), -1);
            told.is(empty.house(3), 0);
        });
        stale(23, STALE, Cutwalks::back);
        walkBounds(23, NO_WALK, Cutwalks::back);
        notThere(23, NOT_NOW, Cutwalks::back);
    }

    private static void go() {
        told.promise(24, "So many times FORTH (BACK, if that is below 0)", () -> {
            Cutwalks x = Sentences.walking(2, "3 1 4 1 5");
            told.is(x.go(0, 1), 1);
            told.is(Sentences.stand(x, 0), "3 1 4|1 5|1");
            told.is(x.go(0, -1), 1);
            told.is(Sentences.stand(x, 0), "3 1|4 1 5|2");
            told.is(x.go(0, 0), 0);
            told.is(Sentences.stand(x, 0), "3 1|4 1 5|2");
        });
        told.promise(24, "as long as there is an ITEM", () -> {
            Cutwalks x = Sentences.walking(2, "3 1 4 1 5");
            told.is(x.go(0, 4), 3);
            told.is(Sentences.stand(x, 0), "3 1 4 1 5||1");
            told.is(x.go(0, 1), 0);
            told.is(Sentences.stand(x, 0), "3 1 4 1 5||1");
            told.is(x.go(0, -6), 5);
            told.is(Sentences.stand(x, 0), "|3 1 4 1 5|2");
            told.is(x.go(0, -1), 0);
            told.is(Sentences.stand(x, 0), "|3 1 4 1 5|2");
        });
        told.promise(24, "Returns how many ITEMS were told", () -> {
            told.insideEach(-12, 0, many -> -many, HOUSE, (x, many) -> x.go(1, many));
            told.inside(0, 12, 0, HOUSE, (x, many) -> x.go(1, many));
            told.inside(-12, 12, 0, HOUSE, (x, many) -> x.go(2, many));
            told.insideEach(-12, 12, many -> many > 0 ? 1 : 0, HOUSE, (x, many) -> x.go(3, many));
        });
        told.promise(24, "if many is not -12 to 12", () -> {
            told.outside(HOUSE.get(), Due.ARGUMENT, new int[] {-13, 13, Integer.MIN_VALUE, Integer.MAX_VALUE},
                    (x, many) -> x.go(0, many));
            Cutwalks x = Sentences.walking(0, Sentences.FULL);
            told.is(x.go(0, 12), 12);
            told.is(x.go(0, -12), 12);
        });
        stale(24, STALE, (x, walk) -> x.go(walk, 1));
        stale(24, STALE, (x, walk) -> x.go(walk, 0));
        stale(24, STALE, (x, walk) -> x.go(walk, -12));
        walkBounds(24, NO_WALK, (x, walk) -> x.go(walk, 1));
        notThere(24, NOT_NOW, (x, walk) -> x.go(walk, 0));
    }

    private static void seek() {
        told.promise(25, "FORTH, till an ITEM is told", () -> {
            Cutwalks x = Sentences.walking(0, "3 1 4 1 5");
            x.seek(0, 1);
            told.is(Sentences.stand(x, 0), "3 1|4 1 5|1");
            x.seek(0, 1);
            told.is(Sentences.stand(x, 0), "3 1 4 1|5|1");
        });
        told.promise(25, "Returns the CUT then, if it was told", () -> {
            told.insideEach(1, 12, item -> item, () -> Sentences.walking(0, Sentences.FULL), (x, item) -> x.seek(0, item));
            told.is(Sentences.walking(0, "0").seek(0, 0), 1);
            told.is(Sentences.walking(0, "99").seek(0, 99), 1);
        });
        told.promise(25, "NONE if it was not (the CUT is at the end then)", () -> {
            Cutwalks x = Sentences.walking(2, "3 1 4 1 5");
            told.is(x.seek(0, 3), -1);
            told.is(Sentences.stand(x, 0), "3 1 4 1 5||1");
            told.is(x.seek(0, 5), -1);
            told.is(Sentences.stand(x, 0), "3 1 4 1 5||1");
            Cutwalks atEnd = Sentences.walking(5, "3 1 4 1 5");
            told.is(atEnd.seek(0, 5), -1);
            told.is(Sentences.stand(atEnd, 0), "3 1 4 1 5||0");
            Cutwalks empty = Sentences.walking(0, "");
            told.is(empty.seek(0, 0), -1);
            told.is(Sentences.stand(empty, 0), "||0");
            told.is(empty.house(3), 0);
        });
        stale(25, STALE, (x, walk) -> x.seek(walk, 5));
        walkBounds(25, NO_WALK, (x, walk) -> x.seek(walk, 5));
        itemBounds(25, (x, item) -> x.seek(0, item));
        notThere(25, NOT_NOW, (x, walk) -> x.seek(walk, 5));
    }

    private static void add() {
        told.promise(26, "Returns the CUT then", () -> {
            told.insideEach(0, 5, cut -> cut + 1, HOUSE, (x, cut) -> {
                x.open(0, 0, cut);
                return x.add(0, 9);
            });
            Cutwalks x = Sentences.walking(11, "1 2 3 4 5 6 7 8 9 10 11");
            told.is(x.add(0, 12), 12);
            told.is(Sentences.stand(x, 0), Sentences.FULL + "||0");
        });
        told.promise(26, FULL_ROW, () -> {
            for (int cut = 0; cut <= 12; cut += 6) {
                Cutwalks x = Sentences.walking(cut, Sentences.FULL);
                String stand = Sentences.stand(x, 0);
                told.is(x.add(0, 9), -9);
                told.is(Sentences.stand(x, 0), stand);
                told.is(x.house(3), 1);
                x.go(0, 12);
                x.back(0);
                told.is(x.add(0, 9), -9);
                told.is(x.ofWalk(0, 5), 2);
                x.remove(0);
                told.is(x.add(0, 9), 12);
                told.is(x.house(3), 2);
            }
        });
        stale(26, "-9 if it is STALE", (x, walk) -> x.add(walk, 5));
        walkBounds(26, NO_WALK, (x, walk) -> x.add(walk, 5));
        itemBounds(26, (x, item) -> x.add(0, item));
        notThere(26, NOT_NOW, (x, walk) -> x.add(walk, 5));
    }

    private static void set() {
        told.promise(27, "Returns the CUT", () -> {
            Cutwalks x = Sentences.walking(0, "3 1");
            x.forth(0);
            told.is(x.set(0, 9), 1);
            x.forth(0);
            told.is(x.set(0, 8), 2);
            x.back(0);
            told.is(x.set(0, 7), 1);
            x.back(0);
            told.is(x.set(0, 6), 0);
            told.is(Sentences.stand(x, 0), "|6 7|2");
        });
        told.promise(27, LAST_NONE, () -> {
            Cutwalks x = Sentences.walking(1, "3 1");
            told.is(x.set(0, 9), -9);
            told.is(Sentences.stand(x, 0), "3|1|0");
            x.add(0, 8);
            told.is(x.set(0, 9), -9);
            x.forth(0);
            x.remove(0);
            told.is(x.set(0, 9), -9);
            told.is(Sentences.stand(x, 0), "3 8||0");
            told.is(x.forth(0), -1);
            told.is(x.set(0, 9), -9);
            told.is(x.house(3), 4);
        });
        stale(27, "-9 if it is STALE", (x, walk) -> x.set(walk, 5));
        walkBounds(27, NO_WALK, (x, walk) -> x.set(walk, 5));
        itemBounds(27, (x, item) -> x.set(0, item));
        notThere(27, NOT_NOW, (x, walk) -> x.set(walk, 5));
    }

    private static void remove() {
        told.promise(28, "Returns the CUT then", () -> {
            Cutwalks x = Sentences.walking(12, Sentences.FULL);
            x.back(0);
            told.is(x.remove(0), 11);
            told.is(Sentences.stand(x, 0), "1 2 3 4 5 6 7 8 9 10 11||0");
            x.go(0, -12);
            x.forth(0);
            told.is(x.remove(0), 0);
            told.is(Sentences.stand(x, 0), "|2 3 4 5 6 7 8 9 10 11|0");
            x.forth(0);
            x.back(0);
            told.is(x.remove(0), 0);
            told.is(x.size(0), 9);
        });
        told.promise(28, LAST_NONE, () -> {
            Cutwalks x = Sentences.walking(1, "3 1 4");
            told.is(x.remove(0), -9);
            told.is(Sentences.stand(x, 0), "3|1 4|0");
            x.forth(0);
            told.is(x.remove(0), 1);
            told.is(x.remove(0), -9);
            x.add(0, 9);
            told.is(x.remove(0), -9);
            told.is(Sentences.stand(x, 0), "3 9|4|0");
            told.is(x.house(3), 3);
        });
        stale(28, "-9 if it is STALE", Cutwalks::remove);
        notThere(28, NOT_NOW, Cutwalks::remove);
        walkBounds(28, NO_WALK, Cutwalks::remove);
    }

    private static int thinned(Cutwalks x, int m, int r, String stand) {
        int went = x.thin(0, m, r);
        told.is(Sentences.stand(x, 0), stand);
        return went;
    }

    private static void thin() {
        told.promise(29, "FORTH, again and again to the end", () -> {
            told.is(thinned(Sentences.walking(1, "4 6 4 3"), 2, 0, "4 3||1"), 2);
            told.is(thinned(Sentences.walking(1, "4 3 6 4"), 2, 0, "4 3||0"), 2);
            told.is(thinned(Sentences.walking(0, "4 6"), 1, 0, "||0"), 2);
            told.is(thinned(Sentences.walking(0, Sentences.FULL), 1, 0, "||0"), 12);
            told.is(thinned(Sentences.walking(0, Sentences.FULL), 100, 0, Sentences.FULL + "||1"), 0);
        });
        told.promise(29, "each ITEM told whose rest by m is r is taken out as it is told", () -> {
            told.is(thinned(Sentences.walking(4, "4 6 4 3"), 1, 0, "4 6 4 3||0"), 0);
            told.is(thinned(Sentences.walking(0, ""), 1, 0, "||0"), 0);
            Cutwalks x = Sentences.walking(0, "4 6");
            x.go(0, 2);
            told.is(thinned(x, 1, 0, "4 6||1"), 0);
        });
        told.promise(29, "Returns how many were taken out", () -> {
            told.is(Sentences.walking(0, "0 99 98 1").thin(0, 100, 99), 1);
            told.is(Sentences.walking(0, "0 99 98 1").thin(0, 99, 0), 2);
            told.is(Sentences.walking(0, "0 99 98 1").thin(0, 2, 1), 2);
            told.is(Sentences.walking(0, "0 99 98 1").thin(0, 3, 1), 1);
        });
        told.promise(29, NO_REST, () -> {
            told.outside(HOUSE.get(), Due.ARGUMENT, new int[] {0, -1, 101, Integer.MIN_VALUE, Integer.MAX_VALUE},
                    (x, m) -> x.thin(0, m, 0));
            told.is(HOUSE.get().thin(0, 1, 0), 3);
            told.is(HOUSE.get().thin(0, 100, 5), 1);
        });
        told.promise(29, "or r not 0 to m - 1", () -> {
            told.outside(HOUSE.get(), Due.ARGUMENT, new int[] {-1, 1, Integer.MIN_VALUE, Integer.MAX_VALUE},
                    (x, r) -> x.thin(0, 1, r));
            told.outside(HOUSE.get(), Due.ARGUMENT, new int[] {-1, 4, 5}, (x, r) -> x.thin(0, 4, r));
            told.outside(HOUSE.get(), Due.ARGUMENT, new int[] {-1, 100}, (x, r) -> x.thin(0, 100, r));
            told.insideEach(0, 3, r -> new int[] {1, 2, 0, 0}[r], HOUSE, (x, r) -> x.thin(0, 4, r));
            told.is(HOUSE.get().thin(0, 100, 99), 0);
        });
        stale(29, STALE, (x, walk) -> x.thin(walk, 100, 99));
        walkBounds(29, NO_WALK, (x, walk) -> x.thin(walk, 1, 0));
        notThere(29, NOT_NOW, (x, walk) -> x.thin(walk, 1, 0));
    }

    private static int fitted(Cutwalks x, int item, String stand) {
        int cut = x.fit(0, item);
        told.is(Sentences.stand(x, 0), stand);
        return cut;
    }

    private static void fit() {
        told.promise(30, "BACK, till an ITEM is told that is no greater than one", () -> {
            told.is(fitted(Sentences.walking(4, "1 3 5 7"), 4, "1 3 4|5 7|0"), 3);
            told.is(fitted(Sentences.walking(4, "1 3 5 7"), 5, "1 3 5 5|7|0"), 4);
            told.is(fitted(Sentences.walking(4, "1 3 5 7"), 7, "1 3 5 7 7||0"), 5);
            told.is(fitted(Sentences.walking(4, "1 3 5 7"), 6, "1 3 5 6|7|0"), 4);
        });
        told.promise(30, "or there is none", () -> {
            told.is(fitted(Sentences.walking(4, "1 3 5 7"), 0, "0|1 3 5 7|0"), 1);
            told.is(fitted(Sentences.walking(0, "1 3 5 7"), 9, "9|1 3 5 7|0"), 1);
            told.is(fitted(Sentences.walking(0, ""), 9, "9||0"), 1);
        });
        told.promise(30, "then (if one that is no greater was told) FORTH once", () -> {
            told.is(fitted(Sentences.walking(4, "1 3 5 7"), 1, "1 1|3 5 7|0"), 2);
            told.is(fitted(Sentences.walking(1, "1 3 5 7"), 99, "1 99|3 5 7|0"), 2);
            told.is(fitted(Sentences.walking(1, "0"), 0, "0 0||0"), 2);
        });
        told.promise(30, "Returns the CUT then", () -> {
            told.is(fitted(Sentences.walking(11, "1 2 3 4 5 6 7 8 9 10 11"), 12, Sentences.FULL + "||0"), 12);
            told.is(fitted(Sentences.walking(11, "2 3 4 5 6 7 8 9 10 11 12"), 1, "1|2 3 4 5 6 7 8 9 10 11 12|0"), 1);
        });
        told.promise(30, FULL_ROW, () -> {
            Cutwalks x = Sentences.walking(12, Sentences.FULL);
            told.is(x.fit(0, 0), -9);
            told.is(Sentences.stand(x, 0), Sentences.FULL + "||0");
            x.back(0);
            told.is(x.fit(0, 5), -9);
            told.is(Sentences.stand(x, 0), "1 2 3 4 5 6 7 8 9 10 11|12|2");
            told.is(x.house(3), 2);
            x.remove(0);
            told.is(x.fit(0, 12), 12);
            told.is(x.house(3), 2);
        });
        stale(30, "-9 if it is STALE", (x, walk) -> x.fit(walk, 5));
        walkBounds(30, NO_WALK, (x, walk) -> x.fit(walk, 5));
        itemBounds(30, (x, item) -> x.fit(0, item));
        notThere(30, NOT_NOW, (x, walk) -> x.fit(walk, 5));
    }

    private static String each(Cutwalks x, int walk) {
        StringBuilder each = new StringBuilder();
        for (int what = 0; what <= 6; what++) {
            each.append(what == 0 ? "" : " ").append(x.ofWalk(walk, what));
        }
        return each.toString();
    }

    private static void ofWalk() {
        told.promise(31, "2 the CUT less 1", () -> {
            told.is(Sentences.walking(0, "3").ofWalk(0, 2), -1);
            told.is(Sentences.walking(1, "3").ofWalk(0, 2), 0);
            told.is(Sentences.walking(12, Sentences.FULL).ofWalk(0, 2), 11);
        });
        told.promise(31, "3 1 if an ITEM is BEHIND, otherwise 0", () -> {
            told.is(Sentences.walking(0, "").ofWalk(0, 3), 0);
            told.is(Sentences.walking(0, "3").ofWalk(0, 3), 1);
            told.is(Sentences.walking(1, "3").ofWalk(0, 3), 0);
            told.is(Sentences.walking(11, Sentences.FULL).ofWalk(0, 3), 1);
            told.is(Sentences.walking(12, Sentences.FULL).ofWalk(0, 3), 0);
        });
        told.promise(31, "4 1 if one is AHEAD, otherwise 0", () -> {
            told.is(Sentences.walking(0, "").ofWalk(0, 4), 0);
            told.is(Sentences.walking(0, "3").ofWalk(0, 4), 0);
            told.is(Sentences.walking(1, "3").ofWalk(0, 4), 1);
            told.is(Sentences.walking(0, Sentences.FULL).ofWalk(0, 4), 0);
            told.is(Sentences.walking(1, Sentences.FULL).ofWalk(0, 4), 1);
        });
        told.promise(31, "0 its ROW, 1 the CUT", () -> {
            told.is(each(HOUSE.get(), 0), "0 2 1 1 1 0 0");
            told.is(each(HOUSE.get(), 1), "1 12 11 0 1 0 0");
            told.is(each(HOUSE.get(), 2), "2 0 -1 0 0 0 0");
            told.is(each(HOUSE.get(), 3), "3 0 -1 1 0 0 0");
        });
        told.promise(31, "5 LAST", () -> {
            Cutwalks x = HOUSE.get();
            told.is(x.ofWalk(0, 5), 0);
            x.forth(0);
            told.is(x.ofWalk(0, 5), 1);
            x.back(0);
            told.is(x.ofWalk(0, 5), 2);
            x.remove(0);
            told.is(x.ofWalk(0, 5), 0);
        });
        told.promise(31, "6 1 if it is STALE, otherwise 0", () -> {
            Cutwalks x = HOUSE.get();
            told.is(x.ofWalk(0, 6), 0);
            x.put(0, 9);
            told.is(x.ofWalk(0, 6), 1);
            told.is(x.ofWalk(1, 6), 0);
        });
        told.promise(31, "NONE if it is not there (by all)", () -> {
            Cutwalks x = HOUSE.get();
            x.put(3, 9);
            for (int walk = 0; walk <= 3; walk++) {
                told.is(each(new Cutwalks(), walk), "-1 -1 -1 -1 -1 -1 -1");
                x.shut(walk);
                told.is(each(x, walk), "-1 -1 -1 -1 -1 -1 -1");
            }
        });
        told.promise(31, "of a STALE one NONE but by 0 and 6", () -> {
            Cutwalks x = HOUSE.get();
            x.forth(3);
            x.put(3, 9);
            told.is(each(x, 3), "3 -1 -1 -1 -1 -1 1");
            x.removeAt(0, 0);
            told.is(each(x, 0), "0 -1 -1 -1 -1 -1 1");
        });
        told.promise(31, "if what is not 0 to 6", () -> {
            for (int walk = 0; walk <= 3; walk++) {
                int asked = walk;
                told.outside(HOUSE.get(), Due.ARGUMENT, new int[] {-1, 7, Integer.MIN_VALUE, Integer.MAX_VALUE},
                        (x, what) -> x.ofWalk(asked, what));
                told.outside(new Cutwalks(), Due.ARGUMENT, new int[] {-1, 7}, (x, what) -> x.ofWalk(asked, what));
            }
            told.insideEach(0, 6, what -> new int[] {0, 2, 1, 1, 1, 0, 0}[what], HOUSE, (x, what) -> x.ofWalk(0, what));
        });
        for (int what = 0; what <= 6; what++) {
            int asked = what;
            walkBounds(31, NO_WALK, (x, walk) -> x.ofWalk(walk, asked));
        }
    }

    private static void aheadAndBehind() {
        told.promise(32, "Returns the text of what is AHEAD (the first ITEM first)", () -> {
            told.is(Sentences.walking(0, "3 10 4").ahead(0), "");
            told.is(Sentences.walking(1, "3 10 4").ahead(0), "3");
            told.is(Sentences.walking(2, "3 10 4").ahead(0), "3 10");
            told.is(Sentences.walking(12, Sentences.FULL).ahead(0), Sentences.FULL);
            told.is(Sentences.walking(0, "").ahead(0), "");
        });
        told.promise(33, "Returns the text of what is BEHIND", () -> {
            told.is(Sentences.walking(3, "3 10 4").behind(0), "");
            told.is(Sentences.walking(2, "3 10 4").behind(0), "4");
            told.is(Sentences.walking(1, "3 10 4").behind(0), "10 4");
            told.is(Sentences.walking(0, Sentences.FULL).behind(0), Sentences.FULL);
            told.is(Sentences.walking(0, "").behind(0), "");
        });
        dash(32, Cutwalks::ahead);
        dash(33, Cutwalks::behind);
        walkBounds(32, NO_WALK, Cutwalks::ahead);
        walkBounds(33, NO_WALK, Cutwalks::behind);
    }

    private static void dash(int promise, Sentences.Call call) {
        told.promise(promise, "\"-\" if it is not there, or STALE", () -> {
            Cutwalks gone = HOUSE.get();
            Cutwalks stale = HOUSE.get();
            for (int walk = 0; walk <= 3; walk++) {
                told.is(call.on(new Cutwalks(), walk), "-");
                gone.shut(walk);
                told.is(call.on(gone, walk), "-");
                stale.copy(walk, walk);
                told.is(call.on(stale, walk), "-");
            }
            told.is(stale.house(3), 0);
        });
    }
}
