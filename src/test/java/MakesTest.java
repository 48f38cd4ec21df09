import static java.lang.Integer.MAX_VALUE;
import static java.lang.Integer.MIN_VALUE;

/** Promises 34 to 43: what walks make. */
public final class MakesTest {
    private static final Due due = new Due("MakesTest");

    public static void main(String[] args) {
        merge();
        weave();
        pair();
        through();
        part();
        sift();
        single();
        round();
        roll();
        pass();
        rowsAreLookedAt();
        due.end();
    }

    private static Cutwalks withTwo(int[] first, int[] second) {
        Cutwalks x = RowsTest.with(first);
        RowsTest.fill(x, 1, second);
        return x;
    }

    private static int[] of(int... items) {
        return items;
    }

    private static void merge() {
        due.promise(34);
        Cutwalks x = withTwo(of(1, 4, 4, 9), of(0, 4, 5));
        x.open(0, 0, 0);
        x.open(2, 2, 0);
        due.is(x.merge(2, 0, 1), 7);
        due.is(x.text(2, false), "0 1 4 4 4 5 9");
        due.is(x.ofWalk(0, 6), 0);
        due.is(x.ofWalk(2, 6), 1);
        x = withTwo(of(5, 1, 6), of(3, 9, 2));
        due.is(x.merge(2, 0, 1), 6);
        due.is(x.text(2, false), "3 5 1 6 9 2");
        due.is(x.merge(2, 1, 0), 6);
        due.is(x.text(2, false), "3 5 1 6 9 2");
        x = withTwo(of(4, 9), of(4, 1));
        x.merge(2, 0, 1);
        due.is(x.text(2, false), "4 4 1 9");
        x = withTwo(of(4, 5), of(4));
        x.merge(2, 0, 1);
        due.is(x.text(2, false), "4 4 5");
        // Of two alike that of the first one comes: seen by what follows it.
        x = withTwo(of(4, 1), of(4, 9));
        x.merge(2, 0, 1);
        due.is(x.text(2, false), "4 1 4 9");
        x.merge(2, 1, 0);
        due.is(x.text(2, false), "4 4 1 9");
        due.is(x.merge(2, 3, 0), 2);
        due.is(x.text(2, false), "4 1");
        due.is(x.merge(2, 0, 3), 2);
        due.is(x.merge(0, 0, 1), 4);
        due.is(x.text(0, false), "4 1 4 9");
        due.is(x.merge(0, 1, 0), 6);
        due.is(x.text(0, false), "4 4 1 4 9 9");
        due.is(x.merge(0, 0, 0), 12);
        due.is(x.text(0, false), "4 4 1 4 4 4 1 4 9 9 9 9");
        due.is(x.merge(3, 3, 3), 0);
        tooManyIsRefused((y, row) -> y.merge(row, 0, 1), (y, row) -> y.merge(row, 1, 1));
    }

    private static void weave() {
        due.promise(35);
        Cutwalks x = withTwo(of(1, 2, 3), of(7));
        x.open(0, 0, 0);
        x.open(2, 2, 0);
        due.is(x.weave(2, 0, 1), 4);
        due.is(x.text(2, false), "1 7 2 3");
        due.is(x.ofWalk(0, 6), 0);
        due.is(x.ofWalk(2, 6), 1);
        due.is(x.weave(2, 1, 0), 4);
        due.is(x.text(2, false), "7 1 2 3");
        due.is(x.weave(2, 0, 0), 6);
        due.is(x.text(2, false), "1 1 2 2 3 3");
        due.is(x.weave(2, 3, 0), 3);
        due.is(x.text(2, false), "1 2 3");
        due.is(x.weave(0, 0, 1), 4);
        due.is(x.text(0, false), "1 7 2 3");
        due.is(x.weave(1, 0, 1), 5);
        due.is(x.text(1, false), "1 7 7 2 3");
        due.is(x.weave(3, 3, 3), 0);
        tooManyIsRefused((y, row) -> y.weave(row, 0, 1), (y, row) -> y.weave(row, 1, 1));
    }

    private interface Make {
        int of(Cutwalks x, int row);
    }

    /** Rows of 6 and 7 items together are too many; the row's walk goes on. */
    private static void tooManyIsRefused(Make six, Make seven) {
        Cutwalks x = new Cutwalks();
        x.row(0, 1, 1, 6);
        x.row(1, 1, 1, 6);
        due.is(six.of(x, 2), 12);
        x.put(1, 9);
        x.open(2, 2, 4);
        x.open(1, 1, 4);
        due.is(six.of(x, 2), -9);
        due.is(seven.of(x, 1), -9);
        due.is(x.size(2), 12);
        due.is(x.text(1, false), "1 2 3 4 5 6 9");
        due.is(x.ofWalk(2, 6), 0);
        due.is(x.ofWalk(1, 6), 0);
        x.copy(0, 1);
        x.row(1, 1, 1, 6);
        due.is(six.of(x, 2), -9);
        due.is(x.house(3), 3);
    }

    private static void pair() {
        due.promise(36);
        Cutwalks x = withTwo(of(1, 99, 50, 3), of(7, 99, 50));
        x.open(0, 0, 0);
        x.open(2, 2, 0);
        due.is(x.pair(2, 0, 1), 3);
        due.is(x.text(2, false), "8 98 0");
        due.is(x.ofWalk(0, 6), 0);
        due.is(x.ofWalk(2, 6), 1);
        due.is(x.pair(2, 1, 0), 3);
        due.is(x.text(2, false), "8 98 0");
        due.is(x.pair(2, 0, 3), 0);
        due.is(x.pair(0, 0, 0), 4);
        due.is(x.text(0, false), "2 98 0 6");
        x.row(0, 0, 1, 12);
        x.row(1, 1, 1, 12);
        due.is(x.pair(1, 0, 1), 12);
        due.is(x.text(1, false), "1 3 5 7 9 11 13 15 17 19 21 23");
        x.open(3, 3, 0);
        due.is(x.pair(3, 3, 3), 0);
        due.is(x.ofWalk(3, 6), 1);
    }

    private static void through() {
        due.promise(37);
        Cutwalks x = withTwo(of(11, 22, 33), of(2, 0, 0, 1));
        x.open(2, 2, 0);
        due.is(x.through(2, 0, 1), 4);
        due.is(x.text(2, false), "33 11 11 22");
        due.is(x.ofWalk(2, 6), 1);
        x.open(2, 2, 1);
        x.put(1, 3);
        due.is(x.through(2, 0, 1), -9);
        due.is(x.text(2, false), "33 11 11 22");
        due.is(x.ofWalk(2, 6), 0);
        due.is(x.through(2, 3, 1), -9);
        due.is(x.house(3), 2);
        x.row(3, 3, 98, 2);
        due.is(x.through(2, 0, 3), -9);
        x.wipe(3);
        due.is(x.through(2, 0, 3), 0);
        due.is(x.through(3, 3, 3), 0);
        x.removeAt(1, 4);
        due.is(x.through(1, 0, 1), 4);
        due.is(x.text(1, false), "33 11 11 22");
        x.wipe(3);
        RowsTest.fill(x, 3, 1, 2, 0);
        due.is(x.through(3, 3, 3), 3);
        due.is(x.text(3, false), "2 0 1");
        due.is(x.through(0, 0, 3), 3);
        due.is(x.text(0, false), "33 11 22");
    }

    private static void part() {
        due.promise(38);
        Cutwalks x = RowsTest.with(1, 2, 3, 4);
        x.open(0, 0, 0);
        x.open(1, 1, 0);
        due.is(x.part(1, 0, 1, 3), 2);
        due.is(x.text(1, false), "2 3");
        due.is(x.ofWalk(0, 6), 0);
        due.is(x.ofWalk(1, 6), 1);
        due.is(x.part(1, 0, 0, 4), 4);
        due.is(x.part(1, 0, 4, 4), 0);
        due.is(x.part(1, 0, 2, 2), 0);
        due.fails(x, Due.INDEX, () -> x.part(1, 0, 0, 5));
        due.fails(x, Due.INDEX, () -> x.part(1, 0, 3, 2));
        due.fails(x, Due.INDEX, () -> x.part(1, 0, -1, 2));
        due.fails(x, Due.INDEX, () -> x.part(1, 0, 5, 5));
        due.fails(x, Due.INDEX, () -> x.part(1, 0, MIN_VALUE, MAX_VALUE));
        due.fails(x, Due.INDEX, () -> x.part(0, 1, 0, 1));
        due.fails(x, Due.INDEX, () -> x.part(4, 0, 0, 0));
        due.fails(x, Due.INDEX, () -> x.part(0, 4, 0, 0));
        due.fails(x, Due.INDEX, () -> x.part(-1, 0, 0, 0));
        due.fails(x, Due.INDEX, () -> x.part(0, -1, 0, 0));
        due.is(x.part(0, 0, 0, 4), 4);
        due.is(x.ofWalk(0, 6), 1);
        due.is(x.part(0, 0, 2, 4), 2);
        due.is(x.text(0, false), "3 4");
    }

    private static void sift() {
        due.promise(39);
        Cutwalks x = RowsTest.with(1, 2, 3, 4, 99, 0);
        x.open(0, 0, 0);
        due.is(x.sift(0, 5, 0), 1);
        due.is(x.text(0, false), "1 2 3 4 99");
        due.is(x.ofWalk(0, 6), 1);
        x.open(0, 0, 3);
        due.is(x.sift(0, 100, 98), 0);
        due.is(x.ofWalk(0, 6), 0);
        due.is(x.sift(0, 100, 99), 1);
        due.is(x.sift(0, 2, 1), 2);
        due.is(x.text(0, false), "2 4");
        due.is(x.sift(0, 1, 0), 2);
        due.is(x.sift(0, 1, 0), 0);
        due.fails(x, Due.INDEX, () -> x.sift(4, 0, 0));
        due.fails(x, Due.INDEX, () -> x.sift(-1, 1, 0));
        due.fails(x, Due.ARGUMENT, () -> x.sift(0, 0, 0));
        due.fails(x, Due.ARGUMENT, () -> x.sift(0, -5, 0));
        due.fails(x, Due.ARGUMENT, () -> x.sift(0, 101, 0));
        due.fails(x, Due.ARGUMENT, () -> x.sift(0, 5, 5));
        due.fails(x, Due.ARGUMENT, () -> x.sift(0, 5, -1));
        due.fails(x, Due.ARGUMENT, () -> x.sift(0, MIN_VALUE, MAX_VALUE));
    }

    private static void single() {
        due.promise(40);
        Cutwalks x = RowsTest.with(1, 1, 2, 1, 3, 3, 3);
        x.open(0, 0, 0);
        due.is(x.single(0), 3);
        due.is(x.text(0, false), "1 2 1 3");
        due.is(x.ofWalk(0, 6), 1);
        x.open(0, 0, 0);
        due.is(x.single(0), 0);
        due.is(x.ofWalk(0, 6), 0);
        due.is(x.single(1), 0);
        x.row(1, 0, 0, 12);
        due.is(x.single(1), 11);
        due.is(x.text(1, false), "0");
        due.fails(x, Due.INDEX, () -> x.single(4));
        due.fails(x, Due.INDEX, () -> x.single(-1));
    }

    private static void round() {
        due.promise(41);
        Cutwalks x = RowsTest.with(1, 2, 3, 4);
        x.open(0, 0, 1);
        x.forth(0);
        due.is(x.round(0), 4);
        due.is(x.text(0, false), "4 3 2 1");
        due.is(x.ofWalk(0, 6), 0);
        due.is(x.ofWalk(0, 1), 2);
        due.is(x.ofWalk(0, 5), 1);
        due.is(x.remove(0), 1);
        due.is(x.text(0, false), "4 2 1");
        due.is(x.round(0), 1);
        due.is(x.text(0, false), "1 2 4");
        due.is(x.round(1), -1);
        x.put(1, 9);
        due.is(x.round(1), 9);
        due.fails(x, Due.INDEX, () -> x.round(4));
        due.fails(x, Due.INDEX, () -> x.round(-1));
    }

    private static void roll() {
        due.promise(42);
        Cutwalks x = RowsTest.with(1, 2, 3, 4);
        x.open(0, 0, 1);
        due.is(x.roll(0, 0), 1);
        due.is(x.ofWalk(0, 6), 0);
        due.is(x.roll(0, 1), 2);
        due.is(x.text(0, false), "2 3 4 1");
        due.is(x.ofWalk(0, 6), 1);
        due.is(x.roll(0, 24), 2);
        due.is(x.roll(0, 23), 1);
        x.open(1, 1, 0);
        due.is(x.roll(1, 24), -1);
        due.is(x.ofWalk(1, 6), 0);
        x.put(1, 9);
        x.open(1, 1, 1);
        due.is(x.roll(1, 1), 9);
        due.is(x.ofWalk(1, 6), 1);
        x.row(2, 1, 1, 12);
        x.open(1, 2, 1);
        due.is(x.roll(2, 12), 1);
        due.is(x.text(2, false), "1 2 3 4 5 6 7 8 9 10 11 12");
        due.is(x.ofWalk(1, 6), 1);
        due.fails(x, Due.INDEX, () -> x.roll(4, 25));
        due.fails(x, Due.INDEX, () -> x.roll(-1, 0));
        due.fails(x, Due.ARGUMENT, () -> x.roll(0, 25));
        due.fails(x, Due.ARGUMENT, () -> x.roll(0, -1));
    }

    private static void pass() {
        due.promise(43);
        Cutwalks x = withTwo(of(5, 1, 7, 2), of(50));
        x.open(0, 0, 0);
        x.open(1, 1, 0);
        due.is(x.pass(0, 1, 1), 0);
        due.is(x.ofWalk(0, 6), 0);
        due.is(x.ofWalk(1, 6), 0);
        due.is(x.pass(0, 1, 5), 2);
        due.is(x.text(0, false), "5 7");
        due.is(x.text(1, false), "50 1 2");
        due.is(x.ofWalk(0, 6), 1);
        due.is(x.ofWalk(1, 6), 1);
        x.row(2, 0, 0, 10);
        x.row(3, 0, 0, 3);
        x.open(2, 2, 0);
        x.open(3, 3, 0);
        due.is(x.pass(3, 2, 99), -9);
        due.is(x.size(2), 10);
        due.is(x.size(3), 3);
        due.is(x.ofWalk(2, 6), 0);
        due.is(x.ofWalk(3, 6), 0);
        due.is(x.house(3), 1);
        due.is(x.pass(3, 2, 0), 0);
        x.removeAt(3, 0);
        due.is(x.pass(3, 2, 1), 2);
        due.is(x.size(2), 12);
        due.is(x.pass(3, 2, 99), 0);
        x.put(3, 98);
        due.is(x.pass(3, 2, 98), 0);
        due.is(x.pass(3, 2, 99), -9);
        due.fails(x, Due.INDEX, () -> x.pass(4, 4, 0));
        due.fails(x, Due.INDEX, () -> x.pass(0, 4, 0));
        due.fails(x, Due.INDEX, () -> x.pass(-1, 0, 0));
        due.fails(x, Due.INDEX, () -> x.pass(0, -1, 100));
        due.fails(x, Due.ARGUMENT, () -> x.pass(0, 0, 0));
        due.fails(x, Due.ARGUMENT, () -> x.pass(0, 1, 100));
        due.fails(x, Due.ARGUMENT, () -> x.pass(0, 1, -1));
        due.fails(x, Due.ARGUMENT, () -> x.pass(3, 2, 100));
    }

    private static void rowsAreLookedAt() {
        Cutwalks x = withTwo(of(0, 1), of(1));
        for (int wrong : of(4, -1, MIN_VALUE, MAX_VALUE)) {
            due.promise(34);
            due.fails(x, Due.INDEX, () -> x.merge(wrong, 0, 1));
            due.fails(x, Due.INDEX, () -> x.merge(2, wrong, 1));
            due.fails(x, Due.INDEX, () -> x.merge(2, 0, wrong));
            due.promise(35);
            due.fails(x, Due.INDEX, () -> x.weave(wrong, 0, 1));
            due.fails(x, Due.INDEX, () -> x.weave(2, wrong, 1));
            due.fails(x, Due.INDEX, () -> x.weave(2, 0, wrong));
            due.promise(36);
            due.fails(x, Due.INDEX, () -> x.pair(wrong, 0, 1));
            due.fails(x, Due.INDEX, () -> x.pair(2, wrong, 1));
            due.fails(x, Due.INDEX, () -> x.pair(2, 0, wrong));
            due.promise(37);
            due.fails(x, Due.INDEX, () -> x.through(wrong, 0, 1));
            due.fails(x, Due.INDEX, () -> x.through(2, wrong, 1));
            due.fails(x, Due.INDEX, () -> x.through(2, 0, wrong));
        }
    }
}
