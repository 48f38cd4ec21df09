import java.math.BigInteger;
import java.util.function.Supplier;

/** Promises 44 to 47: a test of its own for each sentence that names a bound, and the checksum's wrap-around. */
public final class HouseBoundsTest {
    private static final Sentences told = new Sentences("HouseBoundsTest");
    private static final Supplier<Cutwalks> HOUSE = Sentences::house;

    public static void main(String[] args) {
        knock();
        house();
        isSound();
        digest();
        told.end();
    }

    private static void knock() {
        told.promise(44, "Returns how often one knocked, with this", () -> {
            Cutwalks x = new Cutwalks();
            for (int times = 1; times <= 500; times++) {
                told.is(x.knock(), times);
            }
            told.is(x.house(4), 500);
            told.is(x.house(3), 0);
            told.is(new Cutwalks().knock(), 1);
        });
        told.promise(44, "Knocks", () -> {
            Cutwalks x = HOUSE.get();
            String before = Sentences.all(x);
            x.knock();
            told.is(Sentences.all(x), before);
        });
    }

    private static void house() {
        told.promise(45, "0 ITEMS of all ROWS", () -> {
            Cutwalks x = new Cutwalks();
            told.is(x.house(0), 0);
            for (int row = 0; row <= 3; row++) {
                x.row(row, 0, 0, 12);
                told.is(x.house(0), 12 * row + 12);
            }
            x.put(3, 9);
            told.is(x.house(0), 48);
            x.removeAt(0, 0);
            told.is(x.house(0), 47);
        });
        told.promise(45, "1 WALKS that are there, 2 those that are STALE", () -> {
            Cutwalks x = new Cutwalks();
            for (int walk = 0; walk <= 3; walk++) {
                x.open(walk, 0, 0);
                told.is(x.house(1), walk + 1);
                told.is(x.house(2), 0);
            }
            x.put(0, 9);
            told.is(x.house(1), 4);
            told.is(x.house(2), 4);
            for (int walk = 0; walk <= 3; walk++) {
                x.shut(walk);
                told.is(x.house(1), 3 - walk);
                told.is(x.house(2), 3 - walk);
            }
        });
        told.promise(45, "2 those that are STALE", () -> {
            Cutwalks x = HOUSE.get();
            for (int row = 0; row <= 3; row++) {
                x.copy(row, row);
                told.is(x.house(2), row + 1);
            }
            x.open(2, 2, 0);
            told.is(x.house(2), 3);
        });
        told.promise(45, "3 how often REFUSED was told", () -> {
            Cutwalks x = HOUSE.get();
            told.is(x.house(3), 0);
            for (int times = 1; times <= 200; times++) {
                x.put(1, 0);
                told.is(x.house(3), times);
            }
            told.is(x.forth(1), -1);
            told.fails(x, Due.ARGUMENT, () -> x.put(1, 100));
            told.is(x.house(3), 200);
        });
        told.promise(45, "4 how often one knocked", () -> {
            Cutwalks x = HOUSE.get();
            told.is(x.house(4), 0);
            x.knock();
            told.is(x.house(4), 1);
        });
        told.promise(45, "5 ROWS that RISE", () -> {
            Cutwalks x = new Cutwalks();
            told.is(x.house(5), 4);
            for (int row = 0; row <= 3; row++) {
                x.row(row, 5, 99, 2);
                told.is(x.house(5), 3 - row);
            }
            x.change(0, 1, 5);
            told.is(x.house(5), 1);
        });
        told.promise(45, "if what is not 0 to 5", () -> {
            told.outside(HOUSE.get(), Due.ARGUMENT, new int[] {-1, 6, Integer.MIN_VALUE, Integer.MAX_VALUE},
                    Cutwalks::house);
            told.insideEach(0, 5, what -> new int[] {18, 4, 0, 0, 0, 3}[what], HOUSE, Cutwalks::house);
        });
    }

    /** It is so, and asking changes nothing. */
    private static void sound(Cutwalks x) {
        String before = Sentences.all(x);
        told.is(x.isSound(), true);
        told.is(Sentences.all(x), before);
    }

    private static void isSound() {
        told.promise(46, "(on copies, which may have more than 12 ITEMS)", () -> {
            Cutwalks x = Sentences.rows(Sentences.FULL, Sentences.FULL, Sentences.FULL, Sentences.FULL);
            sound(x);
            x.row(0, 99, 99, 12);
            x.row(1, 99, 0, 12);
            x.row(2, 0, 7, 12);
            sound(x);
            told.is(x.house(3), 0);
        });
        told.promise(46, "what is AHEAD and what is BEHIND, one behind the other, are its ROW", () -> {
            for (int cut = 0; cut <= 12; cut++) {
                sound(Sentences.walking(cut, Sentences.FULL));
            }
            sound(Sentences.walking(0, ""));
        });
        told.promise(46, "of each WALK that is not STALE", () -> {
            Cutwalks x = HOUSE.get();
            x.forth(0);
            x.wipe(1);
            x.wipe(0);
            x.put(2, 9);
            sound(x);
            told.is(x.house(2), 3);
            sound(new Cutwalks());
        });
        told.promise(46, "FORTH and BACK, if FORTH tells an ITEM, and BACK and FORTH, if BACK tells one", () -> {
            sound(Sentences.walking(0, "7"));
            sound(Sentences.walking(1, "7"));
            sound(Sentences.walking(0, ""));
            Cutwalks x = Sentences.walking(1, "7 7 7");
            x.forth(0);
            sound(x);
            told.is(x.ofWalk(0, 5), 1);
            x.back(0);
            sound(x);
            told.is(x.ofWalk(0, 5), 2);
        });
        told.promise(46, "PUT of 7 and BACK tells 7, and taken out then the ROW is the same", () -> {
            for (int cut = 0; cut <= 12; cut += 3) {
                Cutwalks x = Sentences.walking(cut, "7 7 7 7 7 7 7 7 7 7 7 7");
                x.open(1, 0, 12 - cut);
                sound(x);
                told.is(x.size(0), 12);
                told.is(x.house(2), 0);
                told.is(x.house(3), 0);
            }
        });
        told.promise(46, "of each ROW: turned ROUND twice it is the same", () -> {
            Cutwalks x = Sentences.rows("1 2", "1 2 3", "", "1");
            sound(x);
            told.is(Sentences.text(x), "1 2/1 2 3//1");
        });
        told.promise(46, "SIFTED by 3 and 1 and again nothing goes", () -> {
            Cutwalks x = Sentences.rows("1 4 7 10 13 16", "97", "0 2 3 5", Sentences.FULL);
            sound(x);
        });
        told.promise(46, "and by 2 and 0, then 3 and 1, the same stays as by 3 and 1, then 2 and 0", () ->
                sound(Sentences.rows("4 10 16 1 2 3", "0 6 7 9 13", "", "4")));
        told.promise(46, "has as many ITEMS as both, and both are WITHIN both of these", () -> {
            sound(Sentences.rows(Sentences.FULL, "", "9 8 7", "12 11 10 9 8 7 6 5 4 3 2 1"));
            sound(Sentences.rows("5", "5", "5 5", ""));
        });
        told.promise(46, "if both RISE, what is MERGED does", () ->
                sound(Sentences.rows(Sentences.FULL, "0 0 5 99", "", "2 1")));
        told.promise(46, "PAIRED they are the same in either sequence", () ->
                sound(Sentences.rows("99 99 1", "99 1", "", Sentences.FULL)));
        told.promise(46, "they are the SAME just if each is WITHIN the other one", () -> {
            sound(Sentences.rows("1 2", "1 2", "2 1", "1 2 1"));
            sound(Sentences.rows("", "", "0", "0 0"));
        });
    }

    private static void is(Cutwalks x, long digest) {
        told.is(x.digest(), digest);
    }

    // The numbers were told by hand from the document, by whole numbers without a bound, and wrapped then.
    private static void digest() {
        told.promise(47, "A number d starts with 7840", () -> is(new Cutwalks(), 3352445693978898765L));
        told.promise(47, "which wraps around as a 64-bit integer", () -> {
            Cutwalks x = new Cutwalks();
            for (int row = 0; row <= 3; row++) {
                x.row(row, 99, 0, 12);
            }
            is(x, -223295063713290627L);
        });
        told.promise(47, "which wraps around as a 64-bit integer", () -> {
            for (Cutwalks x : new Cutwalks[] {new Cutwalks(), HOUSE.get(), changed()}) {
                BigInteger unbound = unbound(x);
                told.is(unbound.bitLength() > 500, true);
                told.is(x.digest(), unbound.longValue());
            }
        });
        told.promise(47, "for each v in this order", () -> {
            is(HOUSE.get(), -3354450972156517301L);
            is(changed(), -6566212019758254065L);
        });
        told.promise(47, "of a text how long it is, then each of its signs as its number in ASCII", () -> {
            Cutwalks x = Sentences.rows("10");
            Cutwalks y = Sentences.rows("1 0");
            told.is(x.digest() == y.digest(), false);
            told.is(x.digest(), unbound(x).longValue());
            told.is(y.digest(), unbound(y).longValue());
        });
        told.promise(47, "Computes a checksum", () -> {
            Cutwalks x = changed();
            String before = Sentences.all(x);
            long first = x.digest();
            told.is(x.digest(), first);
            told.is(Sentences.all(x), before);
            x.knock();
            // house(4) is 1 greater, and two more are mixed in behind it.
            told.is(x.digest(), first + 31L * 31L);
        });
    }

    /** WALK 0 is STALE, WALK 3 is not there, -9 was told once, one knocked once. */
    private static Cutwalks changed() {
        Cutwalks x = HOUSE.get();
        x.put(0, 9);
        x.forth(0);
        x.knock();
        x.shut(3);
        return x;
    }

    /** The checksum's number ahead of any wrap-around, from the answers of the other calls. */
    private static BigInteger unbound(Cutwalks x) {
        BigInteger[] d = {BigInteger.valueOf(7840)};
        for (int row = 0; row <= 3; row++) {
            mix(d, x.size(row));
            mix(d, x.text(row, false));
            mix(d, x.text(row, true));
            mix(d, x.sum(row));
            mix(d, x.isRising(row) ? 1 : 0);
        }
        for (int row = 0; row <= 3; row++) {
            for (int other = 0; other <= 3; other++) {
                mix(d, x.order(row, other));
                mix(d, x.isWithin(row, other) ? 1 : 0);
            }
        }
        for (int walk = 0; walk <= 3; walk++) {
            for (int what = 0; what <= 6; what++) {
                mix(d, x.ofWalk(walk, what));
            }
            mix(d, x.ahead(walk));
            mix(d, x.behind(walk));
        }
        for (int what = 0; what <= 5; what++) {
            mix(d, x.house(what));
        }
        mix(d, x.isSound() ? 1 : 0);
        return d[0];
    }

    private static void mix(BigInteger[] d, long v) {
        d[0] = d[0].multiply(BigInteger.valueOf(31)).add(BigInteger.valueOf(v));
    }

    private static void mix(BigInteger[] d, String text) {
        mix(d, text.length());
        for (char sign : text.toCharArray()) {
            mix(d, sign);
        }
    }
}
