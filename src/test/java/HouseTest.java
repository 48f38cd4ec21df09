import static java.lang.Integer.MAX_VALUE;
import static java.lang.Integer.MIN_VALUE;

/** Promises 44 to 47: the house. */
public final class HouseTest {
    private static final Due due = new Due("HouseTest");

    public static void main(String[] args) {
        knock();
        house();
        isSound();
        digest();
        due.end();
    }

    private static void knock() {
        due.promise(44);
        Cutwalks x = new Cutwalks();
        due.is(x.knock(), 1);
        due.is(x.knock(), 2);
        due.is(new Cutwalks().knock(), 1);
        due.is(x.knock(), 3);
    }

    private static void house() {
        due.promise(45);
        Cutwalks x = RowsTest.with(3, 1);
        RowsTest.fill(x, 3, 1, 1, 1);
        due.is(x.house(0), 5);
        due.is(x.house(5), 3);
        x.open(0, 0, 0);
        x.open(2, 0, 1);
        x.open(3, 3, 1);
        due.is(x.house(1), 3);
        due.is(x.house(2), 0);
        x.add(2, 0);
        due.is(x.house(1), 3);
        due.is(x.house(2), 1);
        due.is(x.house(3), 0);
        x.forth(0);
        x.forth(0);
        due.is(x.house(3), 2);
        x.knock();
        due.is(x.house(4), 1);
        due.is(x.house(3), 2);
        x.shut(0);
        due.is(x.house(2), 0);
        due.is(x.house(1), 2);
        due.fails(x, Due.ARGUMENT, () -> x.house(6));
        due.fails(x, Due.ARGUMENT, () -> x.house(-1));
        due.fails(x, Due.ARGUMENT, () -> x.house(MIN_VALUE));
        due.fails(x, Due.ARGUMENT, () -> x.house(MAX_VALUE));
    }

    /** It is so in every state that calls can lead to, full rows among them, and asking changes nothing. */
    private static void isSound() {
        due.promise(46);
        Cutwalks x = new Cutwalks();
        due.is(x.isSound(), true);
        x.row(0, 99, 98, 12);
        x.row(1, 1, 1, 12);
        x.row(2, 7, 0, 12);
        x.open(0, 0, 12);
        x.open(1, 0, 0);
        x.open(2, 1, 6);
        x.back(0);
        x.forth(1);
        due.is(x.isSound(), true);
        due.is(x.text(0, false), "99 97 95 93 91 89 87 85 83 81 79 77");
        due.is(x.text(1, false), "1 2 3 4 5 6 7 8 9 10 11 12");
        due.is(x.text(2, false), "7 7 7 7 7 7 7 7 7 7 7 7");
        due.is(x.ofWalk(0, 1), 11);
        due.is(x.ofWalk(0, 5), 2);
        due.is(x.ofWalk(1, 5), 1);
        due.is(x.house(2), 0);
        due.is(x.house(3), 0);
        x.removeAt(0, 0);
        due.is(x.isSound(), true);
        due.is(x.house(2), 2);
    }

    /** The number is told here once more, from the answers of the other calls. */
    private static void digest() {
        due.promise(47);
        Cutwalks x = new Cutwalks();
        due.is(x.digest(), told(x));
        RowsTest.fill(x, 0, 3, 99, 10);
        x.row(1, 1, 1, 12);
        x.row(2, 3, 0, 3);
        due.is(x.digest(), told(x));
        x.open(0, 0, 1);
        x.open(1, 1, 7);
        x.open(3, 3, 0);
        x.go(0, 2);
        x.back(1);
        due.is(x.digest(), told(x));
        x.put(0, 4);
        x.forth(0);
        x.knock();
        due.is(x.digest(), told(x));
        due.is(x.digest(), x.digest());
    }

    private static long told(Cutwalks x) {
        long[] d = {7840};
        for (int row = 0; row < 4; row++) {
            mix(d, x.size(row));
            mix(d, x.text(row, false));
            mix(d, x.text(row, true));
            mix(d, x.sum(row));
            mix(d, x.isRising(row) ? 1 : 0);
        }
        for (int row = 0; row < 4; row++) {
            for (int other = 0; other < 4; other++) {
                mix(d, x.order(row, other));
                mix(d, x.isWithin(row, other) ? 1 : 0);
            }
        }
        for (int walk = 0; walk < 4; walk++) {
            for (int what = 0; what <= 6; what++) {
                mix(d, x.ofWalk(walk, what));
            }
            mix(d, x.ahead(walk));
            mix(d, x.behind(walk));
        }
        for (int what = 0; what <= 5; what++) {
            mix(d, x.house(what));
        }
        mix(d, x.isSound() ? 1 : 0);
        return d[0];
    }

    private static void mix(long[] d, long v) {
        d[0] = d[0] * 31 + v;
    }

    private static void mix(long[] d, String text) {
        mix(d, text.length());
        for (char sign : text.toCharArray()) {
            mix(d, sign);
        }
    }
}
