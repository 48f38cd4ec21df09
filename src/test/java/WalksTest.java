import static java.lang.Integer.MAX_VALUE;
import static java.lang.Integer.MIN_VALUE;

import java.util.function.Function;

/** Promises 19 to 33: walks. */
public final class WalksTest {
    private static final Due due = new Due("WalksTest");

    public static void main(String[] args) {
        open();
        twin();
        shut();
        forth();
        back();
        go();
        seek();
        add();
        set();
        remove();
        thin();
        fit();
        ofWalk();
        aheadAndBehind();
        refusedByStaleAndMissing();
        due.end();
    }

    /** A new object whose ROW 0 has these items, with WALK 0 over it at the cut. */
    private static Cutwalks walking(int cut, int... items) {
        Cutwalks x = RowsTest.with(items);
        x.open(0, 0, cut);
        return x;
    }

    /** The row, the cut and LAST of WALK 0. */
    private static String stand(Cutwalks x) {
        return x.text(0, false) + " | " + x.ofWalk(0, 1) + " | " + x.ofWalk(0, 5);
    }

    private static void open() {
        due.promise(19);
        Cutwalks x = RowsTest.with(3, 1, 4);
        due.is(x.open(0, 0, 0), 3);
        due.is(x.open(1, 0, 3), 0);
        due.is(x.open(2, 0, 1), 2);
        due.is(x.open(3, 3, 0), 0);
        due.is(x.ofWalk(2, 1), 1);
        due.is(x.ofWalk(3, 0), 3);
        x.forth(2);
        x.put(0, 1);
        due.is(x.open(2, 0, 4), 0);
        due.is(x.ofWalk(2, 5), 0);
        due.is(x.ofWalk(2, 6), 0);
        due.is(x.ofWalk(1, 6), 1);
        due.fails(x, Due.INDEX, () -> x.open(4, 0, 0));
        due.fails(x, Due.INDEX, () -> x.open(-1, 0, 0));
        due.fails(x, Due.INDEX, () -> x.open(0, 4, 0));
        due.fails(x, Due.INDEX, () -> x.open(0, -1, 0));
        due.fails(x, Due.INDEX, () -> x.open(0, 0, 5));
        due.fails(x, Due.INDEX, () -> x.open(0, 0, -1));
        due.fails(x, Due.INDEX, () -> x.open(0, 0, MAX_VALUE));
    }

    private static void twin() {
        due.promise(20);
        Cutwalks x = walking(1, 3, 1, 4);
        x.forth(0);
        due.is(x.twin(1, 0), 2);
        due.is(x.ofWalk(1, 0), 0);
        due.is(x.ofWalk(1, 1), 2);
        due.is(x.ofWalk(1, 5), 0);
        due.is(x.ofWalk(0, 5), 1);
        due.is(x.twin(0, 0), 2);
        due.is(x.ofWalk(0, 5), 0);
        x.forth(1);
        due.is(x.ofWalk(0, 1), 2);
        x.open(2, 3, 0);
        x.add(1, 9);
        due.is(x.twin(2, 0), -9);
        due.is(x.ofWalk(2, 0), 3);
        due.is(x.twin(0, 0), -9);
        due.is(x.ofWalk(0, 6), 1);
        due.is(x.house(3), 2);
        due.is(x.twin(0, 1), 4);
        due.is(x.ofWalk(0, 6), 0);
        due.fails(x, Due.STATE, () -> x.twin(0, 3));
        due.fails(x, Due.STATE, () -> x.twin(3, 3));
        due.fails(x, Due.INDEX, () -> x.twin(4, 3));
        due.fails(x, Due.INDEX, () -> x.twin(-1, 0));
        due.fails(x, Due.INDEX, () -> x.twin(0, 4));
        due.fails(x, Due.INDEX, () -> x.twin(0, -1));
    }

    private static void shut() {
        due.promise(21);
        Cutwalks x = walking(1, 3, 1, 4);
        due.is(x.shut(0), 1);
        due.is(x.house(1), 0);
        due.is(x.shut(0), 0);
        x.open(0, 0, 0);
        x.put(0, 1);
        due.is(x.house(2), 1);
        due.is(x.shut(0), 1);
        due.is(x.house(2), 0);
        due.is(x.size(0), 4);
        due.fails(x, Due.INDEX, () -> x.shut(4));
        due.fails(x, Due.INDEX, () -> x.shut(-1));
    }

    private static void forth() {
        due.promise(22);
        Cutwalks x = walking(1, 3, 1, 4);
        due.is(x.forth(0), 1);
        due.is(stand(x), "3 1 4 | 2 | 1");
        due.is(x.forth(0), 4);
        due.is(x.forth(0), -1);
        due.is(stand(x), "3 1 4 | 3 | 1");
        x.open(0, 0, 3);
        due.is(x.forth(0), -1);
        due.is(stand(x), "3 1 4 | 3 | 0");
        x.back(0);
        due.is(x.forth(0), 4);
        due.is(x.ofWalk(0, 5), 1);
        x.open(1, 1, 0);
        due.is(x.forth(1), -1);
    }

    private static void back() {
        due.promise(23);
        Cutwalks x = walking(2, 3, 1, 4);
        due.is(x.back(0), 1);
        due.is(stand(x), "3 1 4 | 1 | 2");
        due.is(x.back(0), 3);
        due.is(x.back(0), -1);
        due.is(stand(x), "3 1 4 | 0 | 2");
        x.open(0, 0, 0);
        due.is(x.back(0), -1);
        due.is(stand(x), "3 1 4 | 0 | 0");
        x.forth(0);
        due.is(x.back(0), 3);
        due.is(x.ofWalk(0, 5), 2);
    }

    private static void go() {
        due.promise(24);
        Cutwalks x = walking(1, 3, 1, 4, 1);
        due.is(x.go(0, 0), 0);
        due.is(stand(x), "3 1 4 1 | 1 | 0");
        due.is(x.go(0, 2), 2);
        due.is(stand(x), "3 1 4 1 | 3 | 1");
        due.is(x.go(0, -1), 1);
        due.is(stand(x), "3 1 4 1 | 2 | 2");
        due.is(x.go(0, 12), 2);
        due.is(x.go(0, 12), 0);
        due.is(stand(x), "3 1 4 1 | 4 | 1");
        due.is(x.go(0, -12), 4);
        due.is(x.go(0, -12), 0);
        due.is(stand(x), "3 1 4 1 | 0 | 2");
        due.is(x.go(0, 0), 0);
        due.is(x.ofWalk(0, 5), 2);
        x.row(1, 0, 1, 12);
        x.open(1, 1, 0);
        due.is(x.go(1, 12), 12);
        due.is(x.go(1, -12), 12);
        due.fails(x, Due.ARGUMENT, () -> x.go(0, 13));
        due.fails(x, Due.ARGUMENT, () -> x.go(0, -13));
        due.fails(x, Due.ARGUMENT, () -> x.go(0, MIN_VALUE));
        due.fails(x, Due.ARGUMENT, () -> x.go(0, MAX_VALUE));
        due.fails(x, Due.ARGUMENT, () -> x.go(3, 13));
        due.fails(x, Due.INDEX, () -> x.go(4, 13));
    }

    private static void seek() {
        due.promise(25);
        Cutwalks x = walking(0, 3, 1, 4, 1);
        due.is(x.seek(0, 1), 2);
        due.is(stand(x), "3 1 4 1 | 2 | 1");
        due.is(x.seek(0, 1), 4);
        due.is(x.seek(0, 1), -1);
        due.is(stand(x), "3 1 4 1 | 4 | 1");
        x.open(0, 0, 2);
        due.is(x.seek(0, 3), -1);
        due.is(stand(x), "3 1 4 1 | 4 | 1");
        x.open(0, 0, 4);
        due.is(x.seek(0, 3), -1);
        due.is(stand(x), "3 1 4 1 | 4 | 0");
        itemIsLookedAt(25, item -> x2 -> x2.seek(0, item), item -> x2 -> x2.seek(1, item), item -> x2 -> x2.seek(4, item));
    }

    private static void add() {
        due.promise(26);
        Cutwalks x = walking(1, 3, 1);
        x.open(1, 0, 1);
        x.forth(0);
        due.is(x.add(0, 0), 3);
        due.is(stand(x), "3 1 0 | 3 | 0");
        due.is(x.ofWalk(0, 6), 0);
        due.is(x.ofWalk(1, 6), 1);
        x.go(0, -3);
        due.is(x.add(0, 99), 1);
        due.is(x.add(0, 98), 2);
        due.is(stand(x), "99 98 3 1 0 | 2 | 0");
        x.row(1, 0, 1, 11);
        x.open(1, 1, 5);
        due.is(x.add(1, 7), 6);
        x.back(1);
        x.open(2, 1, 0);
        due.is(x.add(1, 7), -9);
        due.is(x.ofWalk(1, 5), 2);
        due.is(x.ofWalk(1, 1), 5);
        due.is(x.ofWalk(2, 6), 0);
        due.is(x.size(1), 12);
        due.is(x.house(3), 1);
        itemIsLookedAt(26, item -> x2 -> x2.add(0, item), item -> x2 -> x2.add(1, item), item -> x2 -> x2.add(4, item));
    }

    private static void set() {
        due.promise(27);
        Cutwalks x = walking(1, 3, 1, 4);
        x.open(1, 0, 3);
        due.is(x.set(0, 9), -9);
        due.is(x.house(3), 1);
        x.forth(0);
        due.is(x.set(0, 9), 2);
        due.is(stand(x), "3 9 4 | 2 | 1");
        due.is(x.set(0, 0), 2);
        x.forth(0);
        x.back(0);
        due.is(x.set(0, 99), 2);
        due.is(stand(x), "3 0 99 | 2 | 2");
        due.is(x.ofWalk(1, 6), 0);
        due.is(x.back(1), 99);
        x.round(0);
        due.is(x.set(0, 5), 2);
        due.is(stand(x), "99 0 5 | 2 | 2");
        x.add(0, 1);
        due.is(x.set(0, 7), -9);
        due.is(x.text(0, false), "99 0 1 5");
        itemIsLookedAt(27, item -> x2 -> x2.set(0, item), item -> x2 -> x2.set(1, item), item -> x2 -> x2.set(4, item));
    }

    private static void remove() {
        due.promise(28);
        Cutwalks x = walking(1, 3, 1, 4, 6);
        due.is(x.remove(0), -9);
        due.is(x.house(3), 1);
        x.open(1, 0, 2);
        x.forth(0);
        due.is(x.ofWalk(1, 6), 0);
        due.is(x.remove(0), 1);
        due.is(stand(x), "3 4 6 | 1 | 0");
        due.is(x.ofWalk(0, 6), 0);
        due.is(x.ofWalk(1, 6), 1);
        due.is(x.remove(0), -9);
        x.go(0, 1);
        x.back(0);
        due.is(x.remove(0), 1);
        due.is(stand(x), "3 6 | 1 | 0");
        x.go(0, 12);
        due.is(x.remove(0), 1);
        x.back(0);
        due.is(x.remove(0), 0);
        due.is(stand(x), " | 0 | 0");
        due.is(x.remove(0), -9);
        due.is(x.house(3), 3);
    }

    private static void thin() {
        due.promise(29);
        Cutwalks x = walking(1, 3, 6, 4, 7, 9);
        x.open(1, 0, 0);
        due.is(x.thin(0, 5, 0), 0);
        due.is(stand(x), "3 6 4 7 9 | 5 | 1");
        due.is(x.ofWalk(1, 6), 0);
        x.open(0, 0, 1);
        due.is(x.thin(0, 3, 0), 2);
        due.is(stand(x), "3 4 7 | 3 | 0");
        due.is(x.ofWalk(0, 6), 0);
        due.is(x.ofWalk(1, 6), 1);
        x.open(0, 0, 1);
        due.is(x.thin(0, 100, 4), 1);
        due.is(stand(x), "3 7 | 2 | 1");
        due.is(x.thin(0, 1, 0), 0);
        due.is(stand(x), "3 7 | 2 | 1");
        x.open(0, 0, 2);
        due.is(x.thin(0, 1, 0), 0);
        due.is(x.ofWalk(0, 5), 0);
        x.go(0, -12);
        due.is(x.thin(0, 1, 0), 2);
        due.is(stand(x), " | 0 | 0");
        due.fails(x, Due.ARGUMENT, () -> x.thin(0, 0, 0));
        due.fails(x, Due.ARGUMENT, () -> x.thin(0, -1, 0));
        due.fails(x, Due.ARGUMENT, () -> x.thin(0, MIN_VALUE, 0));
        due.fails(x, Due.ARGUMENT, () -> x.thin(0, 101, 0));
        due.fails(x, Due.ARGUMENT, () -> x.thin(0, 3, 3));
        due.fails(x, Due.ARGUMENT, () -> x.thin(0, 3, -1));
        due.fails(x, Due.ARGUMENT, () -> x.thin(3, 0, 0));
        due.fails(x, Due.INDEX, () -> x.thin(4, 0, 0));
    }

    private static void fit() {
        due.promise(30);
        Cutwalks x = walking(4, 1, 3, 3, 5, 0);
        x.open(1, 0, 0);
        due.is(x.fit(0, 3), 4);
        due.is(stand(x), "1 3 3 3 5 0 | 4 | 0");
        due.is(x.ofWalk(0, 6), 0);
        due.is(x.ofWalk(1, 6), 1);
        due.is(x.fit(0, 0), 1);
        due.is(stand(x), "0 1 3 3 3 5 0 | 1 | 0");
        due.is(x.fit(0, 9), 2);
        due.is(x.text(0, false), "0 9 1 3 3 3 5 0");
        x.go(0, -12);
        due.is(x.fit(0, 50), 1);
        x.open(1, 1, 0);
        due.is(x.fit(1, 50), 1);
        due.is(x.fit(1, 50), 2);
        x.row(1, 0, 1, 12);
        x.open(1, 1, 12);
        x.back(1);
        x.open(2, 1, 0);
        due.is(x.fit(1, 0), -9);
        due.is(x.ofWalk(1, 1), 11);
        due.is(x.ofWalk(1, 5), 2);
        due.is(x.ofWalk(2, 6), 0);
        due.is(x.house(3), 1);
        itemIsLookedAt(30, item -> x2 -> x2.fit(0, item), item -> x2 -> x2.fit(1, item), item -> x2 -> x2.fit(4, item));
    }

    private static void ofWalk() {
        due.promise(31);
        Cutwalks x = new Cutwalks();
        x.row(2, 5, 1, 4);
        x.open(1, 2, 0);
        due.is(all(x, 1), "2 0 -1 1 0 0 0 ");
        x.forth(1);
        due.is(all(x, 1), "2 1 0 1 1 1 0 ");
        x.go(1, 12);
        due.is(all(x, 1), "2 4 3 0 1 1 0 ");
        x.back(1);
        due.is(all(x, 1), "2 3 2 1 1 2 0 ");
        x.put(2, 1);
        due.is(all(x, 1), "2 -1 -1 -1 -1 -1 1 ");
        x.shut(1);
        due.is(all(x, 1), "-1 -1 -1 -1 -1 -1 -1 ");
        x.open(1, 3, 0);
        due.is(all(x, 1), "3 0 -1 0 0 0 0 ");
        due.fails(x, Due.INDEX, () -> x.ofWalk(4, 7));
        due.fails(x, Due.INDEX, () -> x.ofWalk(-1, 0));
        due.fails(x, Due.ARGUMENT, () -> x.ofWalk(0, 7));
        due.fails(x, Due.ARGUMENT, () -> x.ofWalk(0, -1));
        due.fails(x, Due.ARGUMENT, () -> x.ofWalk(1, MAX_VALUE));
    }

    private static String all(Cutwalks x, int walk) {
        StringBuilder all = new StringBuilder();
        for (int what = 0; what <= 6; what++) {
            all.append(x.ofWalk(walk, what)).append(' ');
        }
        return all.toString();
    }

    private static void aheadAndBehind() {
        due.promise(32);
        Cutwalks x = walking(2, 30, 1, 4, 15, 9);
        due.is(x.ahead(0), "30 1");
        due.is(x.ahead(1), "-");
        x.go(0, -2);
        due.is(x.ahead(0), "");
        x.go(0, 12);
        due.is(x.ahead(0), "30 1 4 15 9");
        due.fails(x, Due.INDEX, () -> x.ahead(4));
        due.fails(x, Due.INDEX, () -> x.ahead(-1));
        due.promise(33);
        due.is(x.behind(0), "");
        x.go(0, -2);
        due.is(x.behind(0), "15 9");
        x.go(0, -12);
        due.is(x.behind(0), "30 1 4 15 9");
        due.is(x.behind(1), "-");
        due.fails(x, Due.INDEX, () -> x.behind(4));
        due.fails(x, Due.INDEX, () -> x.behind(-1));
        x.removeAt(0, 0);
        due.is(x.behind(0), "-");
        due.promise(32);
        due.is(x.ahead(0), "-");
    }

    /** A wrong item: IllegalArgumentException also of a walk that is not there, but IndexOutOfBoundsException of no walk. */
    private static void itemIsLookedAt(int promise, Function<Integer, Function<Cutwalks, Object>> there,
            Function<Integer, Function<Cutwalks, Object>> gone, Function<Integer, Function<Cutwalks, Object>> none) {
        due.promise(promise);
        Cutwalks x = walking(1, 3, 1, 4);
        x.forth(0);
        for (int item : new int[] {-1, 100, MIN_VALUE, MAX_VALUE}) {
            due.fails(x, Due.ARGUMENT, () -> there.apply(item).apply(x));
            due.fails(x, Due.ARGUMENT, () -> gone.apply(item).apply(x));
            due.fails(x, Due.INDEX, () -> none.apply(item).apply(x));
        }
        due.is(Due.answer(() -> there.apply(0).apply(x)).toString().startsWith("throws"), false);
        due.is(Due.answer(() -> there.apply(99).apply(x)).toString().startsWith("throws"), false);
    }

    private interface OnWalk {
        Object call(Cutwalks x, int walk);
    }

    /** What each call that moves a walk says of a stale one, of one that is not there, and of none. */
    private static void refusedByStaleAndMissing() {
        refused(22, (x, walk) -> x.forth(walk));
        refused(23, (x, walk) -> x.back(walk));
        refused(24, (x, walk) -> x.go(walk, 0));
        refused(24, (x, walk) -> x.go(walk, -3));
        refused(25, (x, walk) -> x.seek(walk, 3));
        refused(26, (x, walk) -> x.add(walk, 3));
        refused(27, (x, walk) -> x.set(walk, 3));
        refused(28, (x, walk) -> x.remove(walk));
        refused(29, (x, walk) -> x.thin(walk, 1, 0));
        refused(30, (x, walk) -> x.fit(walk, 3));
    }

    private static void refused(int promise, OnWalk on) {
        due.promise(promise);
        Cutwalks x = walking(1, 3, 1, 4);
        x.forth(0);
        x.open(1, 0, 0);
        x.put(0, 7);
        x.open(2, 0, 2);
        due.is(on.call(x, 0), -9);
        due.is(on.call(x, 1), -9);
        due.is(x.house(3), 2);
        due.is(x.text(0, false), "3 1 4 7");
        due.is(x.ofWalk(0, 6), 1);
        due.is(x.ofWalk(2, 6), 0);
        due.fails(x, Due.STATE, () -> on.call(x, 3));
        due.fails(x, Due.INDEX, () -> on.call(x, 4));
        due.fails(x, Due.INDEX, () -> on.call(x, -1));
        due.fails(x, Due.INDEX, () -> on.call(x, MIN_VALUE));
        x.shut(0);
        due.fails(x, Due.STATE, () -> on.call(x, 0));
    }
}
