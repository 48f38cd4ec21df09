import static java.lang.Integer.MAX_VALUE;
import static java.lang.Integer.MIN_VALUE;

/** Promises 1 to 18: a new object, and rows. */
public final class RowsTest {
    private static final Due due = new Due("RowsTest");

    public static void main(String[] args) {
        newObject();
        put();
        insert();
        removeAt();
        change();
        wipe();
        copy();
        row();
        sizeAndAt();
        text();
        find();
        sumAndCount();
        same();
        rising();
        within();
        order();
        due.end();
    }

    /** A new object whose ROW 0 has these items. */
    static Cutwalks with(int... items) {
        Cutwalks x = new Cutwalks();
        fill(x, 0, items);
        return x;
    }

    static void fill(Cutwalks x, int row, int... items) {
        for (int item : items) {
            x.put(row, item);
        }
    }

    private static void newObject() {
        due.promise(1);
        Cutwalks x = new Cutwalks();
        for (int i = 0; i < 4; i++) {
            due.is(x.size(i), 0);
            due.is(x.text(i, false), "");
            for (int what = 0; what <= 6; what++) {
                due.is(x.ofWalk(i, what), -1);
            }
            due.is(x.shut(i), 0);
        }
        due.is(x.house(0), 0);
        due.is(x.house(1), 0);
        due.is(x.house(2), 0);
        due.is(x.house(3), 0);
        due.is(x.house(4), 0);
        due.is(x.house(5), 4);
        Cutwalks other = new Cutwalks();
        other.put(0, 1);
        due.is(x.size(0), 0);
    }

    private static void put() {
        due.promise(2);
        Cutwalks x = with(3, 1);
        due.is(x.put(0, 2), 3);
        due.is(x.text(0, false), "3 1 2");
        due.is(x.put(3, 0), 1);
        due.is(x.put(3, 99), 2);
        due.is(x.text(3, false), "0 99");
        x.open(0, 0, 1);
        x.open(1, 3, 1);
        x.put(0, 4);
        due.is(x.ofWalk(0, 6), 1);
        due.is(x.ofWalk(1, 6), 0);
        due.fails(x, Due.INDEX, () -> x.put(4, 5));
        due.fails(x, Due.INDEX, () -> x.put(-1, 5));
        due.fails(x, Due.INDEX, () -> x.put(MIN_VALUE, -1));
        due.fails(x, Due.INDEX, () -> x.put(MAX_VALUE, 100));
        due.fails(x, Due.ARGUMENT, () -> x.put(0, 100));
        due.fails(x, Due.ARGUMENT, () -> x.put(0, -1));
        x.row(1, 0, 0, 12);
        x.open(2, 1, 12);
        due.is(x.put(1, 5), -9);
        due.is(x.size(1), 12);
        due.is(x.ofWalk(2, 6), 0);
        due.is(x.house(3), 1);
        due.fails(x, Due.ARGUMENT, () -> x.put(1, 100));
    }

    private static void insert() {
        due.promise(3);
        Cutwalks x = with(3, 1);
        due.is(x.insert(0, 0, 5), 3);
        due.is(x.insert(0, 3, 6), 4);
        due.is(x.insert(0, 2, 7), 5);
        due.is(x.text(0, false), "5 3 7 1 6");
        x.open(0, 0, 5);
        due.is(x.insert(0, 5, 7), 6);
        due.is(x.ofWalk(0, 6), 1);
        due.fails(x, Due.INDEX, () -> x.insert(4, 0, 5));
        due.fails(x, Due.INDEX, () -> x.insert(-1, 0, 5));
        due.fails(x, Due.INDEX, () -> x.insert(0, 7, 5));
        due.fails(x, Due.INDEX, () -> x.insert(0, -1, 5));
        due.fails(x, Due.INDEX, () -> x.insert(0, 7, 100));
        due.fails(x, Due.INDEX, () -> x.insert(1, 1, 5));
        due.fails(x, Due.ARGUMENT, () -> x.insert(0, 6, 100));
        due.fails(x, Due.ARGUMENT, () -> x.insert(0, 0, -1));
        x.row(0, 1, 1, 12);
        x.open(0, 0, 3);
        due.is(x.insert(0, 0, 5), -9);
        due.is(x.insert(0, 12, 5), -9);
        due.is(x.text(0, false), "1 2 3 4 5 6 7 8 9 10 11 12");
        due.is(x.ofWalk(0, 6), 0);
        due.is(x.house(3), 2);
        due.fails(x, Due.INDEX, () -> x.insert(0, 13, 5));
        due.fails(x, Due.ARGUMENT, () -> x.insert(0, 12, 100));
    }

    private static void removeAt() {
        due.promise(4);
        Cutwalks x = with(3, 1, 4, 5);
        x.open(0, 0, 0);
        due.is(x.removeAt(0, 1), 1);
        due.is(x.text(0, false), "3 4 5");
        due.is(x.ofWalk(0, 6), 1);
        due.is(x.removeAt(0, 0), 3);
        due.is(x.removeAt(0, 1), 5);
        due.is(x.text(0, false), "4");
        due.fails(x, Due.INDEX, () -> x.removeAt(0, 1));
        due.fails(x, Due.INDEX, () -> x.removeAt(0, -1));
        due.fails(x, Due.INDEX, () -> x.removeAt(1, 0));
        due.fails(x, Due.INDEX, () -> x.removeAt(4, 0));
        due.fails(x, Due.INDEX, () -> x.removeAt(-1, 0));
        x.row(0, 1, 1, 12);
        due.is(x.removeAt(0, 11), 12);
        due.is(x.size(0), 11);
    }

    private static void change() {
        due.promise(5);
        Cutwalks x = with(3, 1, 4);
        x.open(0, 0, 2);
        due.is(x.change(0, 1, 9), 1);
        due.is(x.text(0, false), "3 9 4");
        due.is(x.ofWalk(0, 6), 0);
        due.is(x.back(0), 9);
        due.is(x.change(0, 0, 0), 3);
        due.is(x.change(0, 2, 99), 4);
        due.is(x.text(0, false), "0 9 99");
        due.fails(x, Due.INDEX, () -> x.change(0, 3, 5));
        due.fails(x, Due.INDEX, () -> x.change(0, -1, 100));
        due.fails(x, Due.INDEX, () -> x.change(4, 0, 5));
        due.fails(x, Due.INDEX, () -> x.change(-1, 0, 5));
        due.fails(x, Due.ARGUMENT, () -> x.change(0, 0, 100));
        due.fails(x, Due.ARGUMENT, () -> x.change(0, 0, -1));
    }

    private static void wipe() {
        due.promise(6);
        Cutwalks x = with(3, 1, 4);
        x.open(0, 0, 3);
        x.open(1, 1, 0);
        due.is(x.wipe(0), 3);
        due.is(x.text(0, false), "");
        due.is(x.ofWalk(0, 6), 1);
        due.is(x.wipe(1), 0);
        due.is(x.ofWalk(1, 6), 0);
        due.is(x.wipe(0), 0);
        due.fails(x, Due.INDEX, () -> x.wipe(4));
        due.fails(x, Due.INDEX, () -> x.wipe(-1));
    }

    private static void copy() {
        due.promise(7);
        Cutwalks x = with(3, 1, 4);
        x.open(0, 0, 3);
        x.open(1, 1, 0);
        due.is(x.copy(1, 0), 0);
        due.is(x.text(1, false), "3 1 4");
        due.is(x.text(0, false), "3 1 4");
        due.is(x.ofWalk(0, 6), 0);
        due.is(x.ofWalk(1, 6), 1);
        x.open(1, 1, 0);
        due.is(x.copy(1, 0), 1);
        due.is(x.ofWalk(1, 6), 1);
        due.is(x.copy(0, 0), 1);
        due.is(x.ofWalk(0, 6), 1);
        x.change(1, 0, 7);
        due.is(x.text(0, false), "3 1 4");
        due.is(x.copy(0, 3), 0);
        due.is(x.size(0), 0);
        due.is(x.copy(2, 3), 1);
        due.fails(x, Due.INDEX, () -> x.copy(4, 0));
        due.fails(x, Due.INDEX, () -> x.copy(0, 4));
        due.fails(x, Due.INDEX, () -> x.copy(-1, 0));
        due.fails(x, Due.INDEX, () -> x.copy(0, -1));
    }

    private static void row() {
        due.promise(8);
        Cutwalks x = with(3, 1, 4);
        x.open(0, 0, 3);
        due.is(x.row(0, 97, 2, 4), 4);
        due.is(x.text(0, false), "97 99 1 3");
        due.is(x.ofWalk(0, 6), 1);
        due.is(x.row(0, 99, 99, 12), 12);
        due.is(x.text(0, false), "99 98 97 96 95 94 93 92 91 90 89 88");
        due.is(x.row(0, 5, 0, 2), 2);
        due.is(x.text(0, false), "5 5");
        x.open(0, 0, 0);
        due.is(x.row(0, 5, 0, 2), 2);
        due.is(x.ofWalk(0, 6), 1);
        x.open(1, 1, 0);
        due.is(x.row(1, 5, 1, 0), 0);
        due.is(x.ofWalk(1, 6), 1);
        due.fails(x, Due.INDEX, () -> x.row(4, 0, 0, 0));
        due.fails(x, Due.INDEX, () -> x.row(-1, 100, 0, 0));
        due.fails(x, Due.ARGUMENT, () -> x.row(0, 100, 0, 0));
        due.fails(x, Due.ARGUMENT, () -> x.row(0, -1, 0, 0));
        due.fails(x, Due.ARGUMENT, () -> x.row(0, 0, 100, 0));
        due.fails(x, Due.ARGUMENT, () -> x.row(0, 0, -1, 0));
        due.fails(x, Due.ARGUMENT, () -> x.row(0, 0, 0, 13));
        due.fails(x, Due.ARGUMENT, () -> x.row(0, 0, 0, -1));
    }

    private static void sizeAndAt() {
        Cutwalks x = with(3, 1, 4);
        due.promise(9);
        due.is(x.size(0), 3);
        due.is(x.size(3), 0);
        x.row(3, 0, 0, 12);
        due.is(x.size(3), 12);
        due.fails(x, Due.INDEX, () -> x.size(4));
        due.fails(x, Due.INDEX, () -> x.size(-1));
        due.promise(10);
        due.is(x.at(0, 0), 3);
        due.is(x.at(0, 1), 1);
        due.is(x.at(0, 2), 4);
        due.fails(x, Due.INDEX, () -> x.at(0, 3));
        due.fails(x, Due.INDEX, () -> x.at(0, -1));
        due.fails(x, Due.INDEX, () -> x.at(0, MAX_VALUE));
        due.fails(x, Due.INDEX, () -> x.at(1, 0));
        due.fails(x, Due.INDEX, () -> x.at(4, 0));
        due.fails(x, Due.INDEX, () -> x.at(-1, 0));
        x.wipe(0);
        due.fails(x, Due.INDEX, () -> x.at(0, 0));
    }

    private static void text() {
        due.promise(11);
        Cutwalks x = with(30, 1, 4);
        due.is(x.text(0, false), "30 1 4");
        due.is(x.text(0, true), "4 1 30");
        due.is(x.text(1, false), "");
        due.is(x.text(1, true), "");
        x.put(1, 0);
        due.is(x.text(1, false), "0");
        due.is(x.text(1, true), "0");
        due.fails(x, Due.INDEX, () -> x.text(4, false));
        due.fails(x, Due.INDEX, () -> x.text(-1, true));
    }

    private static void find() {
        due.promise(12);
        Cutwalks x = with(3, 1, 3, 1, 3);
        due.is(x.find(0, 3, false), 0);
        due.is(x.find(0, 3, true), 4);
        due.is(x.find(0, 1, false), 1);
        due.is(x.find(0, 1, true), 3);
        x.change(0, 0, 8);
        due.is(x.find(0, 8, true), 0);
        x.change(0, 0, 3);
        due.is(x.find(0, 2, false), -1);
        due.is(x.find(0, 2, true), -1);
        due.is(x.find(0, -1, false), -1);
        due.is(x.find(0, MAX_VALUE, true), -1);
        due.is(x.find(1, 0, false), -1);
        due.is(x.find(1, 0, true), -1);
        x.removeAt(0, 4);
        due.is(x.find(0, 3, true), 2);
        due.fails(x, Due.INDEX, () -> x.find(4, 0, false));
        due.fails(x, Due.INDEX, () -> x.find(-1, 0, true));
    }

    private static void sumAndCount() {
        Cutwalks x = with(3, 1, 3);
        x.row(1, 99, 0, 12);
        due.promise(13);
        due.is(x.sum(0), 7);
        due.is(x.sum(1), 1188);
        due.is(x.sum(2), 0);
        x.removeAt(1, 0);
        due.is(x.sum(1), 1089);
        due.fails(x, Due.INDEX, () -> x.sum(4));
        due.fails(x, Due.INDEX, () -> x.sum(-1));
        due.promise(14);
        due.is(x.count(0, 3), 2);
        due.is(x.count(0, 1), 1);
        due.is(x.count(0, 0), 0);
        due.is(x.count(1, 99), 11);
        due.is(x.count(2, -1), 0);
        due.is(x.count(0, MIN_VALUE), 0);
        due.fails(x, Due.INDEX, () -> x.count(4, 0));
        due.fails(x, Due.INDEX, () -> x.count(-1, 0));
    }

    private static void same() {
        due.promise(15);
        Cutwalks x = with(3, 1);
        fill(x, 1, 3, 1, 4);
        due.is(x.isSame(0, 1), false);
        due.is(x.isSame(1, 0), false);
        due.is(x.isSame(0, 0), true);
        due.is(x.isSame(2, 3), true);
        due.is(x.isSame(0, 2), false);
        x.put(0, 4);
        due.is(x.isSame(0, 1), true);
        x.change(0, 2, 5);
        due.is(x.isSame(0, 1), false);
        due.fails(x, Due.INDEX, () -> x.isSame(4, 0));
        due.fails(x, Due.INDEX, () -> x.isSame(0, 4));
        due.fails(x, Due.INDEX, () -> x.isSame(-1, 0));
        due.fails(x, Due.INDEX, () -> x.isSame(0, -1));
    }

    private static void rising() {
        due.promise(16);
        Cutwalks x = with(3, 3, 4);
        due.is(x.isRising(0), true);
        due.is(x.isRising(1), true);
        x.put(0, 3);
        due.is(x.isRising(0), false);
        fill(x, 1, 9);
        due.is(x.isRising(1), true);
        fill(x, 2, 2, 1);
        due.is(x.isRising(2), false);
        due.fails(x, Due.INDEX, () -> x.isRising(4));
        due.fails(x, Due.INDEX, () -> x.isRising(-1));
    }

    private static void within() {
        due.promise(17);
        Cutwalks x = with(1, 3, 3);
        fill(x, 1, 2, 1, 3, 2, 3);
        due.is(x.isWithin(0, 1), true);
        due.is(x.isWithin(1, 0), false);
        due.is(x.isWithin(0, 0), true);
        due.is(x.isWithin(2, 0), true);
        due.is(x.isWithin(0, 2), false);
        due.is(x.isWithin(2, 3), true);
        fill(x, 2, 3, 1);
        due.is(x.isWithin(2, 1), false);
        fill(x, 3, 3, 3, 3);
        due.is(x.isWithin(3, 1), false);
        x.wipe(3);
        fill(x, 3, 2, 3);
        due.is(x.isWithin(3, 1), true);
        // What was taken out of the end is not there any more.
        x.copy(3, 1);
        x.removeAt(1, 4);
        due.is(x.isWithin(3, 1), false);
        due.is(x.isWithin(1, 3), true);
        due.fails(x, Due.INDEX, () -> x.isWithin(4, 0));
        due.fails(x, Due.INDEX, () -> x.isWithin(0, 4));
        due.fails(x, Due.INDEX, () -> x.isWithin(-1, 0));
        due.fails(x, Due.INDEX, () -> x.isWithin(0, -1));
    }

    private static void order() {
        due.promise(18);
        Cutwalks x = with(1, 3);
        fill(x, 1, 1, 3, 0);
        fill(x, 2, 2);
        due.is(x.order(0, 1), -1);
        due.is(x.order(1, 0), 1);
        due.is(x.order(1, 2), -1);
        due.is(x.order(2, 1), 1);
        due.is(x.order(3, 0), -1);
        due.is(x.order(0, 3), 1);
        due.is(x.order(3, 3), 0);
        due.is(x.order(1, 1), 0);
        x.put(0, 0);
        due.is(x.order(0, 1), 0);
        due.fails(x, Due.INDEX, () -> x.order(4, 0));
        due.fails(x, Due.INDEX, () -> x.order(0, 4));
        due.fails(x, Due.INDEX, () -> x.order(-1, 0));
        due.fails(x, Due.INDEX, () -> x.order(0, -1));
    }
}
