import java.util.function.Supplier;

/** Promises 1 to 18: a test of its own for each sentence that names a bound, an end, an empty or a full ROW. */
public final class RowBoundsTest {
    private static final Sentences told = new Sentences("RowBoundsTest");
    private static final Supplier<Cutwalks> HOUSE = Sentences::house;
    private static final String NO_ROW = "if there is no such ROW";
    private static final String NO_ROW_BOTH = "if there is no such ROW (both)";
    private static final String NO_PLACE = "no such PLACE";
    private static final String NO_ITEM = "if item is not 0 to 99";

    public static void main(String[] args) {
        newObject();
        put();
        insert();
        removeAt();
        change();
        wipe();
        gone();
        copy();
        row();
        sizeAndAt();
        text();
        find();
        sumAndCount();
        same();
        rising();
        within();
        order();
        told.end();
    }

    /** No such ROW just outside, nor far outside; each ROW inside is let. */
    private static void rowBounds(int promise, String words, Sentences.Call call) {
        told.promise(promise, words, () -> {
            told.outside(HOUSE.get(), Due.INDEX, Sentences.NO_SUCH, call);
            for (int row = 0; row <= 3; row++) {
                Cutwalks x = HOUSE.get();
                int asked = row;
                told.is(Due.answer(() -> call.on(x, asked)).toString().startsWith("throws"), false);
            }
        });
    }

    private static void itemBounds(int promise, Sentences.Call call) {
        told.promise(promise, NO_ITEM, () -> {
            told.outside(HOUSE.get(), Due.ARGUMENT, Sentences.NO_ITEM, call);
            for (int item : new int[] {0, 99}) {
                Cutwalks x = HOUSE.get();
                told.is(Due.answer(() -> call.on(x, item)).toString().startsWith("throws"), false);
                told.is(x.count(0, item), 1);
            }
        });
    }

    private static void newObject() {
        told.promise(1, "Creates four rows without items", () -> {
            Cutwalks x = new Cutwalks();
            told.is(Sentences.text(x), "///");
            told.is(x.house(0), 0);
            told.outside(x, Due.INDEX, Sentences.NO_SUCH, Cutwalks::size);
        });
        told.promise(1, "and no walk", () -> {
            Cutwalks x = new Cutwalks();
            told.is(x.house(1), 0);
            told.is(x.house(2), 0);
            for (int walk = 0; walk <= 3; walk++) {
                told.is(Sentences.stand(x, walk), "not there");
                int asked = walk;
                told.fails(x, Due.STATE, () -> x.forth(asked));
            }
        });
        told.promise(1, "Creates four rows", () -> {
            Cutwalks first = Sentences.house();
            Cutwalks second = new Cutwalks();
            first.forth(2);
            told.is(Sentences.text(second), "///");
            told.is(second.house(1), 0);
        });
    }

    private static void put() {
        told.promise(2, "An ITEM comes to the end", () -> {
            Cutwalks x = new Cutwalks();
            x.put(0, 9);
            told.is(x.text(0, false), "9");
            x.put(0, 8);
            told.is(x.text(0, false), "9 8");
        });
        told.promise(2, "Returns how many there are then", () -> {
            Cutwalks x = new Cutwalks();
            told.is(x.put(0, 9), 1);
            x.row(0, 1, 1, 11);
            told.is(x.put(0, 12), 12);
            told.is(x.text(0, false), Sentences.FULL);
        });
        told.promise(2, "-9 if there were 12", () -> {
            Cutwalks x = Sentences.rows(Sentences.FULL);
            told.is(x.put(0, 5), -9);
            told.is(x.text(0, false), Sentences.FULL);
            told.is(x.house(3), 1);
            x.removeAt(0, 11);
            told.is(x.put(0, 5), 12);
            told.is(x.put(0, 5), -9);
            told.is(x.house(3), 2);
        });
        rowBounds(2, NO_ROW, (x, row) -> x.put(row, 5));
        itemBounds(2, (x, item) -> x.put(0, item));
    }

    private static void insert() {
        told.promise(3, "An ITEM comes to a PLACE (those from there on are one further)", () -> {
            Cutwalks x = Sentences.rows("3 1");
            x.insert(0, 0, 9);
            told.is(x.text(0, false), "9 3 1");
            x.insert(0, 2, 8);
            told.is(x.text(0, false), "9 3 8 1");
        });
        told.promise(3, "the PLACE, or how many there are", () -> {
            Cutwalks x = new Cutwalks();
            told.is(x.insert(0, 0, 5), 1);
            told.is(x.insert(0, 1, 6), 2);
            told.is(x.insert(0, 2, 7), 3);
            told.is(x.text(0, false), "5 6 7");
        });
        told.promise(3, "Returns how many there are then", () -> {
            Cutwalks x = Sentences.rows("1 2 3 4 5 6 7 8 9 10 11");
            told.is(x.insert(0, 11, 12), 12);
            told.is(x.text(0, false), Sentences.FULL);
        });
        told.promise(3, "-9 if there were 12", () -> {
            Cutwalks x = Sentences.rows(Sentences.FULL);
            told.is(x.insert(0, 0, 5), -9);
            told.is(x.insert(0, 11, 5), -9);
            told.is(x.insert(0, 12, 5), -9);
            told.is(x.text(0, false), Sentences.FULL);
            told.is(x.house(3), 3);
        });
        told.promise(3, "or place is not 0 to how many there are", () -> {
            Cutwalks x = HOUSE.get();
            told.outside(x, Due.INDEX, new int[] {-1, 6, 12, Integer.MIN_VALUE, Integer.MAX_VALUE},
                    (y, place) -> y.insert(0, place, 5));
            told.outside(x, Due.INDEX, new int[] {-1, 13}, (y, place) -> y.insert(1, place, 5));
            told.outside(x, Due.INDEX, new int[] {-1, 1}, (y, place) -> y.insert(2, place, 5));
            told.inside(0, 5, 6, HOUSE, (y, place) -> y.insert(0, place, 5));
            told.inside(0, 0, 1, HOUSE, (y, place) -> y.insert(2, place, 5));
        });
        rowBounds(3, NO_ROW, (x, row) -> x.insert(row, 0, 5));
        itemBounds(3, (x, item) -> x.insert(0, 5, item));
    }

    private static void removeAt() {
        told.promise(4, "An ITEM goes", () -> {
            Cutwalks x = Sentences.rows(Sentences.FULL);
            x.removeAt(0, 11);
            told.is(x.text(0, false), "1 2 3 4 5 6 7 8 9 10 11");
            x.removeAt(0, 0);
            told.is(x.text(0, false), "2 3 4 5 6 7 8 9 10 11");
            x.removeAt(0, 1);
            told.is(x.text(0, false), "2 4 5 6 7 8 9 10 11");
        });
        told.promise(4, "Returns it", () -> {
            told.insideEach(0, 11, place -> place + 1, HOUSE, (x, place) -> x.removeAt(1, place));
            Cutwalks x = Sentences.rows("0");
            told.is(x.removeAt(0, 0), 0);
            told.is(x.text(0, false), "");
        });
        told.promise(4, NO_PLACE, () -> {
            Cutwalks x = HOUSE.get();
            told.outside(x, Due.INDEX, new int[] {-1, 5, Integer.MIN_VALUE, Integer.MAX_VALUE},
                    (y, place) -> y.removeAt(0, place));
            told.outside(x, Due.INDEX, new int[] {-1, 12}, (y, place) -> y.removeAt(1, place));
            told.outside(x, Due.INDEX, new int[] {-1, 0}, (y, place) -> y.removeAt(2, place));
            told.outside(x, Due.INDEX, new int[] {-1, 1}, (y, place) -> y.removeAt(3, place));
        });
        told.promise(4, NO_ROW, () -> {
            told.outside(HOUSE.get(), Due.INDEX, Sentences.NO_SUCH, (x, row) -> x.removeAt(row, 0));
            told.is(HOUSE.get().removeAt(0, 0), 3);
            told.is(HOUSE.get().removeAt(3, 0), 7);
        });
    }

    /** ROW 0 had 99 behind its ITEMS, ROW 2 had ITEMS. */
    private static Cutwalks leftOver() {
        Cutwalks x = Sentences.rows("5 1 5 99", "7", "4 4 0");
        x.removeAt(0, 3);
        x.wipe(2);
        return x;
    }

    /** What went is not there any more, for whatever is asked or made then. */
    private static void gone() {
        told.promise(4, "An ITEM goes", () -> {
            Cutwalks x = leftOver();
            told.is(Sentences.text(x), "5 1 5/7//");
            told.is(x.digest(), Sentences.rows("5 1 5", "7").digest());
            told.is(x.sum(0), 11);
            told.is(x.count(0, 99), 0);
            told.is(x.find(0, 99, false), -1);
            told.is(x.find(0, 99, true), -1);
            told.is(x.find(0, 5, true), 2);
        });
        told.promise(4, "An ITEM goes", () -> {
            told.is(leftOver().sift(0, 100, 99), 0);
            told.is(leftOver().pass(0, 1, 2), 1);
            told.is(leftOver().pass(0, 1, 6), 3);
            told.is(leftOver().merge(1, 0, 0), 6);
            told.is(leftOver().weave(1, 0, 1), 4);
            told.is(leftOver().pair(1, 0, 0), 3);
            told.is(leftOver().open(0, 0, 3), 0);
        });
        told.promise(6, "All ITEMS go", () -> {
            Cutwalks x = leftOver();
            told.is(x.sum(2), 0);
            told.is(x.count(2, 4), 0);
            told.is(x.find(2, 4, true), -1);
            told.is(x.isRising(2), true);
            told.is(x.single(2), 0);
            told.is(x.round(2), -1);
            told.is(x.roll(2, 1), -1);
            told.is(x.pass(2, 1, 99), 0);
            told.is(x.through(3, 2, 2), 0);
            told.is(x.put(2, 8), 1);
            told.is(x.text(2, false), "8");
        });
    }

    private static void change() {
        told.promise(5, "The ITEM at a PLACE becomes another one (a CHANGE)", () -> {
            Cutwalks x = Sentences.rows(Sentences.FULL);
            x.open(0, 0, 5);
            x.change(0, 0, 99);
            x.change(0, 11, 0);
            told.is(x.text(0, false), "99 2 3 4 5 6 7 8 9 10 11 0");
            told.is(x.ofWalk(0, 6), 0);
        });
        told.promise(5, "Returns the one before", () -> {
            Cutwalks x = Sentences.rows("3");
            told.is(x.change(0, 0, 9), 3);
            told.is(x.change(0, 0, 9), 9);
            told.is(x.change(0, 0, 0), 9);
        });
        told.promise(5, NO_PLACE, () -> {
            Cutwalks x = HOUSE.get();
            told.outside(x, Due.INDEX, new int[] {-1, 5, Integer.MIN_VALUE, Integer.MAX_VALUE},
                    (y, place) -> y.change(0, place, 9));
            told.outside(x, Due.INDEX, new int[] {-1, 12}, (y, place) -> y.change(1, place, 9));
            told.outside(x, Due.INDEX, new int[] {-1, 0}, (y, place) -> y.change(2, place, 9));
            told.insideEach(0, 11, place -> place + 1, HOUSE, (y, place) -> y.change(1, place, 99));
        });
        told.promise(5, NO_ROW, () -> {
            told.outside(HOUSE.get(), Due.INDEX, Sentences.NO_SUCH, (x, row) -> x.change(row, 0, 9));
            told.is(HOUSE.get().change(0, 0, 9), 3);
            told.is(HOUSE.get().change(3, 0, 9), 7);
        });
        itemBounds(5, (x, item) -> x.change(0, 2, item));
    }

    private static void wipe() {
        told.promise(6, "All ITEMS go", () -> {
            Cutwalks x = HOUSE.get();
            x.wipe(1);
            told.is(Sentences.text(x), "3 1 4 1 5///7");
            x.put(1, 9);
            told.is(x.text(1, false), "9");
        });
        told.promise(6, "Returns how many there were", () ->
                told.insideEach(0, 3, row -> new int[] {5, 12, 0, 1}[row], HOUSE, Cutwalks::wipe));
        rowBounds(6, NO_ROW, Cutwalks::wipe);
    }

    private static void copy() {
        told.promise(7, "A ROW becomes the SAME as another one", () -> {
            Cutwalks x = HOUSE.get();
            x.copy(2, 1);
            told.is(x.text(2, false), Sentences.FULL);
            x.copy(1, 3);
            told.is(x.text(1, false), "7");
            told.is(x.text(2, false), Sentences.FULL);
            x.wipe(3);
            x.copy(0, 3);
            told.is(x.text(0, false), "");
        });
        told.promise(7, "Returns 1 if they were the SAME already, otherwise 0", () -> {
            told.is(Sentences.rows("3 1", "3 1").copy(0, 1), 1);
            told.is(Sentences.rows("3 1", "3").copy(0, 1), 0);
            told.is(Sentences.rows("3", "3 1").copy(0, 1), 0);
            told.is(Sentences.rows("3 1", "3 2").copy(0, 1), 0);
            told.is(Sentences.rows("", "").copy(0, 1), 1);
            told.is(Sentences.rows("0", "").copy(0, 1), 0);
        });
        told.promise(7, "a ROW, or the same", () -> {
            for (int row = 0; row <= 3; row++) {
                Cutwalks x = HOUSE.get();
                String before = Sentences.text(x);
                told.is(x.copy(row, row), 1);
                told.is(Sentences.text(x), before);
                told.is(x.ofWalk(row, 6), 1);
                told.is(x.house(2), 1);
            }
        });
        rowBounds(7, NO_ROW_BOTH, (x, row) -> x.copy(row, 1));
        rowBounds(7, NO_ROW_BOTH, (x, row) -> x.copy(1, row));
    }

    private static void row() {
        told.promise(8, "each by a step more, by their rest by 100", () -> {
            Cutwalks x = new Cutwalks();
            x.row(0, 98, 1, 4);
            told.is(x.text(0, false), "98 99 0 1");
            x.row(0, 99, 99, 12);
            told.is(x.text(0, false), "99 98 97 96 95 94 93 92 91 90 89 88");
            x.row(0, 0, 0, 2);
            told.is(x.text(0, false), "0 0");
            x.row(0, 50, 50, 3);
            told.is(x.text(0, false), "50 0 50");
        });
        told.promise(8, "Returns how many", () -> {
            told.insideEach(0, 12, many -> many, HOUSE, (x, many) -> x.row(0, 5, 5, many));
            told.insideEach(0, 12, many -> many, HOUSE, (x, many) -> {
                x.row(0, 5, 5, many);
                return x.size(0);
            });
        });
        told.promise(8, "many not 0 to 12", () -> {
            told.outside(HOUSE.get(), Due.ARGUMENT, new int[] {-1, 13, Integer.MIN_VALUE, Integer.MAX_VALUE},
                    (x, many) -> x.row(0, 5, 5, many));
            Cutwalks x = HOUSE.get();
            told.is(x.row(0, 1, 1, 12), 12);
            told.is(x.text(0, false), Sentences.FULL);
            told.is(x.row(0, 1, 1, 0), 0);
            told.is(x.text(0, false), "");
        });
        told.promise(8, "if first or step is not 0 to 99", () -> {
            told.outside(HOUSE.get(), Due.ARGUMENT, Sentences.NO_ITEM, (x, first) -> x.row(0, first, 1, 2));
            told.outside(HOUSE.get(), Due.ARGUMENT, Sentences.NO_ITEM, (x, first) -> x.row(0, first, 1, 0));
            told.is(HOUSE.get().row(0, 0, 1, 2), 2);
            told.is(HOUSE.get().row(0, 99, 1, 2), 2);
        });
        told.promise(8, "if first or step is not 0 to 99", () -> {
            told.outside(HOUSE.get(), Due.ARGUMENT, Sentences.NO_ITEM, (x, step) -> x.row(0, 1, step, 2));
            told.outside(HOUSE.get(), Due.ARGUMENT, Sentences.NO_ITEM, (x, step) -> x.row(0, 1, step, 0));
            told.is(HOUSE.get().row(0, 1, 0, 2), 2);
            told.is(HOUSE.get().row(0, 1, 99, 2), 2);
        });
        rowBounds(8, NO_ROW, (x, row) -> x.row(row, 1, 1, 1));
    }

    private static void sizeAndAt() {
        told.promise(9, "Returns how many ITEMS it has", () ->
                told.insideEach(0, 3, row -> new int[] {5, 12, 0, 1}[row], HOUSE, Cutwalks::size));
        rowBounds(9, NO_ROW, Cutwalks::size);
        told.promise(10, "Returns the ITEM there", () -> {
            told.insideEach(0, 4, place -> new int[] {3, 1, 4, 1, 5}[place], HOUSE, (x, place) -> x.at(0, place));
            told.insideEach(0, 11, place -> place + 1, HOUSE, (x, place) -> x.at(1, place));
        });
        told.promise(10, NO_PLACE, () -> {
            Cutwalks x = HOUSE.get();
            told.outside(x, Due.INDEX, new int[] {-1, 5, Integer.MIN_VALUE, Integer.MAX_VALUE},
                    (y, place) -> y.at(0, place));
            told.outside(x, Due.INDEX, new int[] {-1, 12}, (y, place) -> y.at(1, place));
            told.outside(x, Due.INDEX, new int[] {-1, 0}, (y, place) -> y.at(2, place));
            x.removeAt(1, 11);
            told.outside(x, Due.INDEX, new int[] {11}, (y, place) -> y.at(1, place));
        });
        told.promise(10, NO_ROW, () -> {
            told.outside(HOUSE.get(), Due.INDEX, Sentences.NO_SUCH, (x, row) -> x.at(row, 0));
            told.is(HOUSE.get().at(0, 0), 3);
            told.is(HOUSE.get().at(3, 0), 7);
        });
    }

    private static void text() {
        told.promise(11, "whether from the last ITEM on, otherwise from the first one", () -> {
            Cutwalks x = HOUSE.get();
            told.is(x.text(0, true), "5 1 4 1 3");
            told.is(x.text(0, false), "3 1 4 1 5");
            told.is(x.text(1, true), "12 11 10 9 8 7 6 5 4 3 2 1");
            told.is(x.text(1, false), Sentences.FULL);
        });
        told.promise(11, "Returns it as a text", () -> {
            Cutwalks x = HOUSE.get();
            told.is(x.text(2, false), "");
            told.is(x.text(2, true), "");
            told.is(x.text(3, false), "7");
            told.is(x.text(3, true), "7");
        });
        rowBounds(11, NO_ROW, (x, row) -> x.text(row, false));
        rowBounds(11, NO_ROW, (x, row) -> x.text(row, true));
    }

    private static void find() {
        told.promise(12, "whether the last such PLACE, otherwise the first one", () -> {
            Cutwalks x = Sentences.rows("1 1 2 1 3 1 1 1 1 1 1 1");
            told.is(x.find(0, 1, false), 0);
            told.is(x.find(0, 1, true), 11);
            told.is(x.find(0, 3, false), 4);
            told.is(x.find(0, 3, true), 4);
            told.is(Sentences.rows("3 1").find(0, 3, true), 0);
            told.is(Sentences.rows("3 1").find(0, 3, false), 0);
            told.is(Sentences.rows("3").find(0, 3, true), 0);
            told.is(Sentences.rows("3").find(0, 3, false), 0);
        });
        told.promise(12, "NONE without", () -> {
            Cutwalks x = HOUSE.get();
            told.is(x.find(0, 2, false), -1);
            told.is(x.find(0, 2, true), -1);
            told.is(x.find(2, 0, false), -1);
            told.is(x.find(2, 0, true), -1);
            x.removeAt(1, 11);
            told.is(x.find(1, 12, true), -1);
        });
        told.promise(12, "any number", () -> {
            for (int item : Sentences.NO_ITEM) {
                told.is(HOUSE.get().find(1, item, false), -1);
                told.is(HOUSE.get().find(1, item, true), -1);
                told.is(HOUSE.get().find(2, item, true), -1);
            }
        });
        rowBounds(12, NO_ROW, (x, row) -> x.find(row, 7, false));
        rowBounds(12, NO_ROW, (x, row) -> x.find(row, 100, true));
    }

    private static void sumAndCount() {
        told.promise(13, "Returns all ITEMS together", () -> {
            told.insideEach(0, 3, row -> new int[] {14, 78, 0, 7}[row], HOUSE, Cutwalks::sum);
            Cutwalks x = new Cutwalks();
            x.row(0, 99, 0, 12);
            told.is(x.sum(0), 1188);
        });
        rowBounds(13, NO_ROW, Cutwalks::sum);
        told.promise(14, "Returns how often it stands there", () -> {
            Cutwalks x = HOUSE.get();
            told.is(x.count(0, 1), 2);
            told.is(x.count(0, 3), 1);
            told.is(x.count(0, 5), 1);
            told.is(x.count(0, 2), 0);
            told.is(x.count(2, 0), 0);
            x.row(1, 0, 0, 12);
            told.is(x.count(1, 0), 12);
        });
        told.promise(14, "any number", () -> {
            for (int item : Sentences.NO_ITEM) {
                told.is(HOUSE.get().count(1, item), 0);
                told.is(HOUSE.get().count(2, item), 0);
            }
        });
        rowBounds(14, NO_ROW, (x, row) -> x.count(row, 100));
    }

    private static void same() {
        told.promise(15, "Returns whether both are the SAME", () -> {
            Cutwalks x = HOUSE.get();
            told.is(x.isSame(0, 1), false);
            told.is(x.isSame(2, 3), false);
            told.is(x.isSame(3, 2), false);
            x.wipe(3);
            told.is(x.isSame(2, 3), true);
            x.copy(0, 1);
            told.is(x.isSame(0, 1), true);
            x.change(0, 11, 99);
            told.is(x.isSame(0, 1), false);
        });
        told.promise(15, "a ROW, or the same", () ->
                told.inside(0, 3, true, HOUSE, (x, row) -> x.isSame(row, row)));
        rowBounds(15, NO_ROW_BOTH, (x, row) -> x.isSame(row, 1));
        rowBounds(15, NO_ROW_BOTH, (x, row) -> x.isSame(1, row));
    }

    private static void rising() {
        told.promise(16, "Returns whether it RISES", () -> {
            told.insideEach(0, 3, row -> row != 0, HOUSE, Cutwalks::isRising);
            told.is(Sentences.rows("5 5").isRising(0), true);
            told.is(Sentences.rows("5 4").isRising(0), false);
        });
        rowBounds(16, NO_ROW, Cutwalks::isRising);
    }

    private static void within() {
        told.promise(17, "Returns whether the first one is WITHIN the other one", () -> {
            Cutwalks x = HOUSE.get();
            told.is(x.isWithin(3, 1), true);
            told.is(x.isWithin(1, 3), false);
            told.is(x.isWithin(2, 1), true);
            told.is(x.isWithin(1, 2), false);
            told.is(x.isWithin(0, 1), false);
            x.removeAt(1, 0);
            x.copy(0, 1);
            x.put(1, 99);
            told.is(x.isWithin(0, 1), true);
            told.is(x.isWithin(1, 0), false);
        });
        told.promise(17, "a ROW, or the same", () ->
                told.inside(0, 3, true, HOUSE, (x, row) -> x.isWithin(row, row)));
        rowBounds(17, NO_ROW_BOTH, (x, row) -> x.isWithin(row, 1));
        rowBounds(17, NO_ROW_BOTH, (x, row) -> x.isWithin(1, row));
    }

    private static int order(String first, String second) {
        return Sentences.rows(first, second).order(0, 1);
    }

    private static void order() {
        told.promise(18, "Returns 0 if both are the SAME", () -> {
            told.is(order("", ""), 0);
            told.is(order("3 1", "3 1"), 0);
            told.is(order(Sentences.FULL, Sentences.FULL), 0);
        });
        told.promise(18, "by the first PLACE at which they differ", () -> {
            told.is(order("1 9", "2 0"), -1);
            told.is(order("2 0", "1 9"), 1);
            told.is(order(Sentences.FULL, "1 2 3 4 5 6 7 8 9 10 11 13"), -1);
            told.is(order("1 2 3 4 5 6 7 8 9 10 11 13", Sentences.FULL), 1);
        });
        told.promise(18, "-1 if the first one has the lesser ITEM there or none", () -> {
            told.is(order("0", "99"), -1);
            told.is(order("3", "3 0"), -1);
            told.is(order("", "0"), -1);
            told.is(order("", Sentences.FULL), -1);
        });
        told.promise(18, "1 if the other one has", () -> {
            told.is(order("99", "0"), 1);
            told.is(order("3 0", "3"), 1);
            told.is(order("0", ""), 1);
            told.is(order(Sentences.FULL, ""), 1);
        });
        told.promise(18, "a ROW, or the same", () ->
                told.inside(0, 3, 0, HOUSE, (x, row) -> x.order(row, row)));
        rowBounds(18, NO_ROW_BOTH, (x, row) -> x.order(row, 1));
        rowBounds(18, NO_ROW_BOTH, (x, row) -> x.order(1, row));
    }
}
