import java.util.List;
import java.util.function.Function;
import java.util.function.Supplier;

/** The Description, sentence by sentence: what NONE and -9 are, exceptions, and 1. Rows, 2. Walks, 3. What walks make. */
public final class DescriptionTest {
    private static final Sentences told = new Sentences("DescriptionTest");

    public static void main(String[] args) {
        numbers();
        exceptions();
        rows();
        sameRisesWithin();
        texts();
        walksAndCuts();
        forthAndBack();
        putTakeChange();
        broken();
        staysStale();
        notBroken();
        mergedAndWeaved();
        pairedThroughSifted();
        takenAsTheyWere();
        told.end();
    }

    private record Told(String name, Function<Cutwalks, Object> call) {
    }

    private record Thrown(String exception, Function<Cutwalks, Object> call) {
    }

    /** WALK 0 is STALE, WALK 1 over a full ROW, WALK 2 over none, WALK 3 in the midst; all with LAST 0. */
    private static Cutwalks refusing() {
        Cutwalks x = Sentences.rows("3 1 4 1", Sentences.FULL, "", "7 12");
        x.open(0, 0, 2);
        x.put(0, 5);
        x.open(1, 1, 12);
        x.open(2, 2, 0);
        x.open(3, 3, 1);
        return x;
    }

    /** Each call that tells -9, and each cause of it. */
    private static final List<Told> REFUSED = List.of(
            new Told("put", x -> x.put(1, 0)),
            new Told("insert at the beginning", x -> x.insert(1, 0, 0)),
            new Told("insert at the end", x -> x.insert(1, 12, 0)),
            new Told("twin", x -> x.twin(3, 0)),
            new Told("twin of itself", x -> x.twin(0, 0)),
            new Told("forth", x -> x.forth(0)),
            new Told("back", x -> x.back(0)),
            new Told("go forth", x -> x.go(0, 12)),
            new Told("go not at all", x -> x.go(0, 0)),
            new Told("go back", x -> x.go(0, -12)),
            new Told("seek", x -> x.seek(0, 4)),
            new Told("add, stale", x -> x.add(0, 5)),
            new Told("add, full", x -> x.add(1, 5)),
            new Told("set, stale", x -> x.set(0, 5)),
            new Told("set, LAST 0", x -> x.set(3, 5)),
            new Told("remove, stale", x -> x.remove(0)),
            new Told("remove, LAST 0", x -> x.remove(3)),
            new Told("thin", x -> x.thin(0, 1, 0)),
            new Told("fit, stale", x -> x.fit(0, 5)),
            new Told("fit, full", x -> x.fit(1, 5)),
            new Told("merge", x -> x.merge(2, 0, 1)),
            new Told("merge of itself", x -> x.merge(1, 1, 1)),
            new Told("weave", x -> x.weave(2, 0, 1)),
            new Told("weave of itself", x -> x.weave(1, 1, 1)),
            new Told("through", x -> x.through(2, 3, 1)),
            new Told("through of itself", x -> x.through(3, 3, 3)),
            new Told("pass", x -> x.pass(0, 1, 99)));

    /** The same causes of -9, and an exception each. */
    private static final List<Thrown> AHEAD_OF_REFUSED = List.of(
            new Thrown(Due.ARGUMENT, x -> x.put(1, 100)),
            new Thrown(Due.ARGUMENT, x -> x.put(1, -1)),
            new Thrown(Due.INDEX, x -> x.insert(1, 13, 0)),
            new Thrown(Due.INDEX, x -> x.insert(1, -1, 0)),
            new Thrown(Due.ARGUMENT, x -> x.insert(1, 12, 100)),
            new Thrown(Due.INDEX, x -> x.twin(4, 0)),
            new Thrown(Due.INDEX, x -> x.twin(-1, 0)),
            new Thrown(Due.ARGUMENT, x -> x.go(0, 13)),
            new Thrown(Due.ARGUMENT, x -> x.go(0, -13)),
            new Thrown(Due.ARGUMENT, x -> x.seek(0, 100)),
            new Thrown(Due.ARGUMENT, x -> x.add(0, 100)),
            new Thrown(Due.ARGUMENT, x -> x.add(1, 100)),
            new Thrown(Due.ARGUMENT, x -> x.set(0, 100)),
            new Thrown(Due.ARGUMENT, x -> x.set(3, -1)),
            new Thrown(Due.ARGUMENT, x -> x.thin(0, 0, 0)),
            new Thrown(Due.ARGUMENT, x -> x.thin(0, 1, 1)),
            new Thrown(Due.ARGUMENT, x -> x.fit(0, 100)),
            new Thrown(Due.ARGUMENT, x -> x.fit(1, -1)),
            new Thrown(Due.INDEX, x -> x.merge(4, 0, 1)),
            new Thrown(Due.INDEX, x -> x.weave(4, 0, 1)),
            new Thrown(Due.INDEX, x -> x.through(4, 3, 1)),
            new Thrown(Due.ARGUMENT, x -> x.pass(0, 1, 100)));

    /** Each exception of each call, on ROWS with ITEMS and WALKS over them (WALK 3 is not there). */
    private static final List<Thrown> EACH_EXCEPTION = List.of(
            new Thrown(Due.INDEX, x -> x.put(4, 0)),
            new Thrown(Due.ARGUMENT, x -> x.put(0, 100)),
            new Thrown(Due.INDEX, x -> x.insert(4, 0, 0)),
            new Thrown(Due.INDEX, x -> x.insert(0, 6, 0)),
            new Thrown(Due.ARGUMENT, x -> x.insert(0, 0, 100)),
            new Thrown(Due.INDEX, x -> x.removeAt(4, 0)),
            new Thrown(Due.INDEX, x -> x.removeAt(0, 5)),
            new Thrown(Due.INDEX, x -> x.change(4, 0, 0)),
            new Thrown(Due.INDEX, x -> x.change(0, 5, 0)),
            new Thrown(Due.ARGUMENT, x -> x.change(0, 0, 100)),
            new Thrown(Due.INDEX, x -> x.wipe(4)),
            new Thrown(Due.INDEX, x -> x.copy(4, 0)),
            new Thrown(Due.INDEX, x -> x.copy(0, 4)),
            new Thrown(Due.INDEX, x -> x.row(4, 0, 0, 1)),
            new Thrown(Due.ARGUMENT, x -> x.row(0, 100, 0, 1)),
            new Thrown(Due.ARGUMENT, x -> x.row(0, 0, 100, 1)),
            new Thrown(Due.ARGUMENT, x -> x.row(0, 0, 0, 13)),
            new Thrown(Due.INDEX, x -> x.size(4)),
            new Thrown(Due.INDEX, x -> x.at(4, 0)),
            new Thrown(Due.INDEX, x -> x.at(0, 5)),
            new Thrown(Due.INDEX, x -> x.text(4, false)),
            new Thrown(Due.INDEX, x -> x.find(4, 0, false)),
            new Thrown(Due.INDEX, x -> x.sum(4)),
            new Thrown(Due.INDEX, x -> x.count(4, 0)),
            new Thrown(Due.INDEX, x -> x.isSame(0, 4)),
            new Thrown(Due.INDEX, x -> x.isRising(4)),
            new Thrown(Due.INDEX, x -> x.isWithin(0, 4)),
            new Thrown(Due.INDEX, x -> x.order(0, 4)),
            new Thrown(Due.INDEX, x -> x.open(4, 0, 0)),
            new Thrown(Due.INDEX, x -> x.open(0, 4, 0)),
            new Thrown(Due.INDEX, x -> x.open(0, 0, 6)),
            new Thrown(Due.INDEX, x -> x.twin(0, 4)),
            new Thrown(Due.STATE, x -> x.twin(0, 3)),
            new Thrown(Due.INDEX, x -> x.shut(4)),
            new Thrown(Due.INDEX, x -> x.forth(4)),
            new Thrown(Due.STATE, x -> x.forth(3)),
            new Thrown(Due.INDEX, x -> x.back(4)),
            new Thrown(Due.STATE, x -> x.back(3)),
            new Thrown(Due.INDEX, x -> x.go(4, 0)),
            new Thrown(Due.ARGUMENT, x -> x.go(0, 13)),
            new Thrown(Due.STATE, x -> x.go(3, 0)),
            new Thrown(Due.INDEX, x -> x.seek(4, 0)),
            new Thrown(Due.ARGUMENT, x -> x.seek(0, 100)),
            new Thrown(Due.STATE, x -> x.seek(3, 0)),
            new Thrown(Due.INDEX, x -> x.add(4, 0)),
            new Thrown(Due.ARGUMENT, x -> x.add(0, 100)),
            new Thrown(Due.STATE, x -> x.add(3, 0)),
            new Thrown(Due.INDEX, x -> x.set(4, 0)),
            new Thrown(Due.ARGUMENT, x -> x.set(0, 100)),
            new Thrown(Due.STATE, x -> x.set(3, 0)),
            new Thrown(Due.INDEX, x -> x.remove(4)),
            new Thrown(Due.STATE, x -> x.remove(3)),
            new Thrown(Due.INDEX, x -> x.thin(4, 1, 0)),
            new Thrown(Due.ARGUMENT, x -> x.thin(0, 101, 0)),
            new Thrown(Due.STATE, x -> x.thin(3, 1, 0)),
            new Thrown(Due.INDEX, x -> x.fit(4, 0)),
            new Thrown(Due.ARGUMENT, x -> x.fit(0, 100)),
            new Thrown(Due.STATE, x -> x.fit(3, 0)),
            new Thrown(Due.INDEX, x -> x.ofWalk(4, 0)),
            new Thrown(Due.ARGUMENT, x -> x.ofWalk(0, 7)),
            new Thrown(Due.INDEX, x -> x.ahead(4)),
            new Thrown(Due.INDEX, x -> x.behind(4)),
            new Thrown(Due.INDEX, x -> x.merge(0, 0, 4)),
            new Thrown(Due.INDEX, x -> x.weave(0, 0, 4)),
            new Thrown(Due.INDEX, x -> x.pair(0, 0, 4)),
            new Thrown(Due.INDEX, x -> x.through(0, 0, 4)),
            new Thrown(Due.INDEX, x -> x.part(0, 4, 0, 0)),
            new Thrown(Due.INDEX, x -> x.part(0, 0, 2, 1)),
            new Thrown(Due.INDEX, x -> x.sift(4, 1, 0)),
            new Thrown(Due.ARGUMENT, x -> x.sift(0, 101, 0)),
            new Thrown(Due.INDEX, x -> x.single(4)),
            new Thrown(Due.INDEX, x -> x.round(4)),
            new Thrown(Due.INDEX, x -> x.roll(4, 1)),
            new Thrown(Due.ARGUMENT, x -> x.roll(0, 25)),
            new Thrown(Due.INDEX, x -> x.pass(0, 4, 9)),
            new Thrown(Due.ARGUMENT, x -> x.pass(0, 0, 9)),
            new Thrown(Due.ARGUMENT, x -> x.pass(0, 2, 100)),
            new Thrown(Due.ARGUMENT, x -> x.house(6)));

    /** Calls to which two or three exceptions apply, and the one that is named first (WALK 3 is not there). */
    private static final List<Thrown> SEVERAL = List.of(
            new Thrown(Due.INDEX, x -> x.put(4, 100)),
            new Thrown(Due.INDEX, x -> x.insert(4, 0, 100)),
            new Thrown(Due.INDEX, x -> x.insert(0, 6, 100)),
            new Thrown(Due.INDEX, x -> x.change(4, 0, 100)),
            new Thrown(Due.INDEX, x -> x.change(0, 5, 100)),
            new Thrown(Due.INDEX, x -> x.row(4, 100, 100, 13)),
            new Thrown(Due.INDEX, x -> x.twin(4, 3)),
            new Thrown(Due.INDEX, x -> x.go(4, 13)),
            new Thrown(Due.ARGUMENT, x -> x.go(3, 13)),
            new Thrown(Due.INDEX, x -> x.seek(4, 100)),
            new Thrown(Due.ARGUMENT, x -> x.seek(3, 100)),
            new Thrown(Due.INDEX, x -> x.add(4, 100)),
            new Thrown(Due.ARGUMENT, x -> x.add(3, 100)),
            new Thrown(Due.INDEX, x -> x.set(4, 100)),
            new Thrown(Due.ARGUMENT, x -> x.set(3, 100)),
            new Thrown(Due.INDEX, x -> x.thin(4, 0, 0)),
            new Thrown(Due.ARGUMENT, x -> x.thin(3, 0, 0)),
            new Thrown(Due.ARGUMENT, x -> x.thin(3, 1, 1)),
            new Thrown(Due.INDEX, x -> x.fit(4, 100)),
            new Thrown(Due.ARGUMENT, x -> x.fit(3, 100)),
            new Thrown(Due.INDEX, x -> x.ofWalk(4, 7)),
            new Thrown(Due.INDEX, x -> x.sift(4, 0, 0)),
            new Thrown(Due.INDEX, x -> x.roll(4, 25)),
            new Thrown(Due.INDEX, x -> x.pass(4, 4, 0)),
            new Thrown(Due.INDEX, x -> x.pass(0, 4, 100)),
            new Thrown(Due.INDEX, x -> x.pass(4, 0, 100)));

    private static Cutwalks withoutWalkThree() {
        Cutwalks x = Sentences.house();
        x.shut(3);
        x.forth(0);
        return x;
    }

    private static void numbers() {
        told.description("NONE is -1", () -> {
            Cutwalks x = Sentences.walking(0, "");
            told.is(x.forth(0), -1);
            told.is(x.back(0), -1);
            told.is(x.seek(0, 3), -1);
            told.is(x.find(0, 3, false), -1);
            told.is(x.round(0), -1);
            told.is(x.roll(0, 1), -1);
            told.is(x.ofWalk(1, 0), -1);
        });
        told.description("-9 (REFUSED) is told where a call is let, but cannot be done", () -> {
            for (Told refused : REFUSED) {
                told.is(refused.name() + ": " + refused.call().apply(refusing()), refused.name() + ": -9");
            }
        });
        told.description("that is counted", () -> {
            for (Told refused : REFUSED) {
                Cutwalks x = refusing();
                refused.call().apply(x);
                told.is(refused.name() + ": " + x.house(3), refused.name() + ": 1");
                refused.call().apply(x);
                told.is(refused.name() + ": " + x.house(3), refused.name() + ": 2");
            }
        });
        told.description("that is counted", () -> {
            Cutwalks x = refusing();
            for (Told refused : REFUSED) {
                refused.call().apply(x);
            }
            told.is(x.house(3), REFUSED.size());
            told.is(new Cutwalks().house(3), 0);
        });
        told.description("(exceptions go ahead of it)", () -> {
            for (Thrown thrown : AHEAD_OF_REFUSED) {
                Cutwalks x = refusing();
                told.fails(x, thrown.exception(), () -> thrown.call().apply(x));
                told.is(x.house(3), 0);
            }
        });
        told.description("The rest of a number by m is 0 to m - 1", () -> {
            for (int m = 1; m <= 100; m++) {
                int went = 0;
                for (int r = 0; r < m; r++) {
                    went += Sentences.rows("0 1 2 49 50 51 97 98 99").sift(0, m, r);
                }
                told.is(went, 9);
            }
            told.is(Sentences.rows("99").sift(0, 100, 99), 1);
            told.is(Sentences.rows("99").sift(0, 99, 0), 1);
            told.is(Sentences.rows("98").sift(0, 99, 98), 1);
        });
    }

    private static void exceptions() {
        told.description("A method that throws an exception changes nothing", () -> {
            for (Thrown thrown : EACH_EXCEPTION) {
                Cutwalks x = withoutWalkThree();
                x.knock();
                String before = Sentences.all(x);
                told.fails(x, thrown.exception(), () -> thrown.call().apply(x));
                told.is(Sentences.all(x), before);
                told.is(x.house(4), 1);
            }
        });
        told.description("If several exceptions apply, the one that is named first is thrown", () -> {
            Cutwalks x = withoutWalkThree();
            for (Thrown thrown : SEVERAL) {
                told.fails(x, thrown.exception(), () -> thrown.call().apply(x));
            }
        });
    }

    private static void rows() {
        told.description(1, "ROWS 0 to 3", () -> {
            told.insideEach(0, 3, row -> row == 1 ? 12 : row == 0 ? 5 : row == 2 ? 0 : 1, Sentences::house,
                    Cutwalks::size);
            told.outside(Sentences.house(), Due.INDEX, Sentences.NO_SUCH, Cutwalks::size);
        });
        told.description(1, "each has at most 12 ITEMS", () -> {
            for (int row = 0; row <= 3; row++) {
                Cutwalks x = new Cutwalks();
                for (int many = 1; many <= 12; many++) {
                    told.is(x.put(row, 99), many);
                }
                told.is(x.put(row, 99), -9);
                told.is(x.size(row), 12);
            }
        });
        told.description(1, "(none at first)", () -> {
            for (int row = 0; row <= 3; row++) {
                told.is(new Cutwalks().size(row), 0);
            }
        });
        told.description(1, "An ITEM is a number, 0 to 99", () -> {
            Cutwalks x = new Cutwalks();
            told.is(x.put(0, 0), 1);
            told.is(x.put(0, 99), 2);
            told.is(x.text(0, false), "0 99");
            told.outside(x, Due.ARGUMENT, Sentences.NO_ITEM, (y, item) -> y.put(0, item));
        });
        told.description(1, "Its PLACE: how many stand ahead of it", () -> {
            Cutwalks x = Sentences.rows(Sentences.FULL);
            told.is(x.at(0, 0), 1);
            told.is(x.at(0, 11), 12);
            told.is(x.find(0, 1, false), 0);
            told.is(x.find(0, 12, false), 11);
        });
    }

    private static boolean isSame(String first, String second) {
        return Sentences.rows(first, second).isSame(0, 1);
    }

    private static boolean isWithin(String first, String second) {
        return Sentences.rows(first, second).isWithin(0, 1);
    }

    private static void sameRisesWithin() {
        told.description(1, "if they have as many ITEMS", () -> {
            told.is(isSame("", ""), true);
            told.is(isSame("0", ""), false);
            told.is(isSame("", "0"), false);
            told.is(isSame("1 2", "1 2 2"), false);
            told.is(isSame("1 2 2", "1 2"), false);
        });
        told.description(1, "and the same at each PLACE", () -> {
            told.is(isSame(Sentences.FULL, Sentences.FULL), true);
            told.is(isSame(Sentences.FULL, "0 2 3 4 5 6 7 8 9 10 11 12"), false);
            told.is(isSame(Sentences.FULL, "1 2 3 4 5 6 7 8 9 10 11 13"), false);
            told.is(isSame("1 2", "2 1"), false);
        });
        told.description(1, "A ROW RISES, if no ITEM is less than the one right ahead of it", () -> {
            told.is(Sentences.rows("").isRising(0), true);
            told.is(Sentences.rows("99").isRising(0), true);
            told.is(Sentences.rows("4 4").isRising(0), true);
            told.is(Sentences.rows("4 5").isRising(0), true);
            told.is(Sentences.rows("4 3").isRising(0), false);
            told.is(Sentences.rows(Sentences.FULL).isRising(0), true);
            told.is(Sentences.rows("1 2 3 4 5 6 7 8 9 10 11 10").isRising(0), false);
            told.is(Sentences.rows("1 0 3 4 5 6 7 8 9 10 11 12").isRising(0), false);
        });
        told.description(1, "if that becomes the SAME as it by leaving some of its ITEMS out", () -> {
            told.is(isWithin("1 3", "1 2 3"), true);
            told.is(isWithin("2 3", "1 2 3"), true);
            told.is(isWithin("1 2", "1 2 3"), true);
            told.is(isWithin("3 1", "1 2 3"), false);
            told.is(isWithin("2 2", "1 2 3"), false);
            told.is(isWithin("1 2 3", "1 2"), false);
            told.is(isWithin("", "1"), true);
            told.is(isWithin("1", ""), false);
            told.is(isWithin("12", Sentences.FULL), true);
            told.is(isWithin("12 12", Sentences.FULL), false);
        });
        told.description(1, "(or none)", () -> {
            told.is(isWithin("", ""), true);
            told.is(isWithin("1", "1"), true);
            told.is(isWithin(Sentences.FULL, Sentences.FULL), true);
            told.is(Sentences.rows("2 1").isWithin(0, 0), true);
        });
    }

    private static void texts() {
        told.description(1, "with \" \" between", () -> {
            told.is(Sentences.rows("0").text(0, false), "0");
            told.is(Sentences.rows("10 9").text(0, false), "10 9");
            told.is(Sentences.rows(Sentences.FULL).text(0, false), Sentences.FULL);
        });
        told.description(1, "\"\" without", () -> {
            Cutwalks x = Sentences.walking(0, "");
            told.is(x.text(0, false), "");
            told.is(x.text(0, true), "");
            told.is(x.ahead(0), "");
            told.is(x.behind(0), "");
        });
    }

    private static void walksAndCuts() {
        told.description(2, "WALKS 0 to 3", () -> {
            told.inside(0, 3, 1, Sentences::house, Cutwalks::shut);
            told.outside(Sentences.house(), Due.INDEX, Sentences.NO_SUCH, Cutwalks::shut);
        });
        told.description(2, "(none is there at first)", () -> {
            Cutwalks x = new Cutwalks();
            told.is(x.house(1), 0);
            for (int walk = 0; walk <= 3; walk++) {
                told.is(x.shut(walk), 0);
                told.is(x.ofWalk(walk, 6), -1);
            }
        });
        told.description(2, "how many ITEMS of the ROW are AHEAD of it; the others are BEHIND", () -> {
            told.is(Sentences.stand(Sentences.walking(0, "3 1 4"), 0), "|3 1 4|0");
            told.is(Sentences.stand(Sentences.walking(1, "3 1 4"), 0), "3|1 4|0");
            told.is(Sentences.stand(Sentences.walking(3, "3 1 4"), 0), "3 1 4||0");
            told.is(Sentences.stand(Sentences.walking(0, ""), 0), "||0");
            told.is(Sentences.stand(Sentences.walking(12, Sentences.FULL), 0), Sentences.FULL + "||0");
            told.is(Sentences.stand(Sentences.walking(0, Sentences.FULL), 0), "|" + Sentences.FULL + "|0");
        });
        told.description(2, "LAST: 0 none (at first)", () -> {
            told.is(Sentences.walking(0, "3 1").ofWalk(0, 5), 0);
            told.is(Sentences.walking(2, "3 1").ofWalk(0, 5), 0);
        });
        told.description(2, "1 the ITEM right AHEAD", () -> {
            Cutwalks x = Sentences.walking(0, "3 1");
            x.forth(0);
            told.is(x.ofWalk(0, 5), 1);
            x.set(0, 9);
            told.is(x.text(0, false), "9 1");
        });
        told.description(2, "2 the ITEM right BEHIND", () -> {
            Cutwalks x = Sentences.walking(2, "3 1");
            x.back(0);
            told.is(x.ofWalk(0, 5), 2);
            x.set(0, 9);
            told.is(x.text(0, false), "3 9");
        });
    }

    private static void forthAndBack() {
        told.description(2, "FORTH: the first ITEM BEHIND is told, the CUT is by 1 greater, LAST is 1", () -> {
            Cutwalks x = Sentences.walking(0, "3 1");
            told.is(x.forth(0), 3);
            told.is(Sentences.stand(x, 0), "3|1|1");
            told.is(x.forth(0), 1);
            told.is(Sentences.stand(x, 0), "3 1||1");
            x.back(0);
            told.is(x.forth(0), 1);
            told.is(Sentences.stand(x, 0), "3 1||1");
        });
        told.description(2, "BACK: the last ITEM AHEAD is told, the CUT is by 1 less, LAST is 2", () -> {
            Cutwalks x = Sentences.walking(2, "3 1");
            told.is(x.back(0), 1);
            told.is(Sentences.stand(x, 0), "3|1|2");
            told.is(x.back(0), 3);
            told.is(Sentences.stand(x, 0), "|3 1|2");
            x.forth(0);
            told.is(x.back(0), 3);
            told.is(Sentences.stand(x, 0), "|3 1|2");
        });
        told.description(2, "Without such an ITEM: NONE is told, and nothing changes (LAST neither)", () -> {
            noneForth(Sentences.walking(2, "3 1"), "3 1||0");
            noneForth(Sentences.walking(0, ""), "||0");
            noneForth(Sentences.walking(12, Sentences.FULL), Sentences.FULL + "||0");
            Cutwalks x = Sentences.walking(0, "3 1");
            x.go(0, 2);
            noneForth(x, "3 1||1");
        });
        told.description(2, "Without such an ITEM: NONE is told, and nothing changes (LAST neither)", () -> {
            noneBack(Sentences.walking(0, "3 1"), "|3 1|0");
            noneBack(Sentences.walking(0, ""), "||0");
            noneBack(Sentences.walking(0, Sentences.FULL), "|" + Sentences.FULL + "|0");
            Cutwalks x = Sentences.walking(2, "3 1");
            x.go(0, -2);
            noneBack(x, "|3 1|2");
        });
    }

    private static void noneForth(Cutwalks x, String stand) {
        long before = x.digest();
        told.is(x.forth(0), -1);
        told.is(Sentences.stand(x, 0), stand);
        told.is(x.digest(), before);
    }

    private static void noneBack(Cutwalks x, String stand) {
        long before = x.digest();
        told.is(x.back(0), -1);
        told.is(Sentences.stand(x, 0), stand);
        told.is(x.digest(), before);
    }

    private static void putTakeChange() {
        told.description(2, "PUT: an ITEM comes in at the CUT, which is by 1 greater; LAST is 0", () -> {
            Cutwalks x = Sentences.walking(0, "3 1");
            x.add(0, 8);
            told.is(Sentences.stand(x, 0), "8|3 1|0");
            x.go(0, 2);
            x.add(0, 9);
            told.is(Sentences.stand(x, 0), "8 3 1 9||0");
            x.back(0);
            x.add(0, 7);
            told.is(Sentences.stand(x, 0), "8 3 1 7|9|0");
            Cutwalks empty = Sentences.walking(0, "");
            empty.add(0, 8);
            told.is(Sentences.stand(empty, 0), "8||0");
        });
        told.description(2, "TAKE OUT: the ITEM of LAST goes (of 1 the CUT is by 1 less); LAST is 0", () -> {
            Cutwalks x = Sentences.walking(0, "3 1 4");
            x.forth(0);
            x.remove(0);
            told.is(Sentences.stand(x, 0), "|1 4|0");
            x.go(0, 2);
            x.remove(0);
            told.is(Sentences.stand(x, 0), "1||0");
        });
        told.description(2, "TAKE OUT: the ITEM of LAST goes", () -> {
            Cutwalks x = Sentences.walking(3, "3 1 4");
            x.back(0);
            x.remove(0);
            told.is(Sentences.stand(x, 0), "3 1||0");
            x.go(0, -2);
            x.remove(0);
            told.is(Sentences.stand(x, 0), "|1|0");
            x.forth(0);
            x.remove(0);
            told.is(Sentences.stand(x, 0), "||0");
        });
        told.description(2, "CHANGE: the ITEM of LAST becomes another one; LAST stays", () -> {
            Cutwalks x = Sentences.walking(0, "3 1");
            x.forth(0);
            x.set(0, 0);
            told.is(Sentences.stand(x, 0), "0|1|1");
            x.set(0, 99);
            told.is(Sentences.stand(x, 0), "99|1|1");
            x.forth(0);
            x.back(0);
            x.set(0, 98);
            told.is(Sentences.stand(x, 0), "99|98|2");
        });
    }

    /** Two WALKS over ROW 0 (WALK 1 told the ITEM right AHEAD), one over each of ROWS 1 and 2. */
    private static Cutwalks twoOver(String first, String second) {
        Cutwalks x = Sentences.rows(first, second);
        x.open(0, 0, 0);
        x.open(1, 0, 0);
        x.open(2, 1, 0);
        x.open(3, 2, 0);
        x.forth(1);
        return x;
    }

    private static String stale(Cutwalks x) {
        StringBuilder stale = new StringBuilder();
        for (int walk = 0; walk <= 3; walk++) {
            stale.append(x.ofWalk(walk, 6));
        }
        return stale.toString();
    }

    private static void leaves(String stale, Cutwalks x, Function<Cutwalks, Object> call) {
        Object answer = call.apply(x);
        told.is("answered " + answer + ": " + stale(x), "answered " + answer + ": " + stale);
    }

    private static void breaks(String stale, String first, String second, Function<Cutwalks, Object> call) {
        leaves(stale, twoOver(first, second), call);
    }

    private static void broken() {
        told.description(2, "as soon as anything but this WALK put an ITEM into its ROW", () -> {
            breaks("1100", "3 1", "5", x -> x.put(0, 9));
            breaks("1100", "3 1", "5", x -> x.insert(0, 0, 9));
            breaks("1100", "3 1", "5", x -> x.insert(0, 2, 9));
            breaks("1000", "3 1", "5", x -> x.add(1, 9));
            breaks("1000", "3 1", "5", x -> x.fit(1, 9));
        });
        told.description(2, "or took one out", () -> {
            breaks("1100", "3 1", "5", x -> x.removeAt(0, 0));
            breaks("1100", "3 1", "5", x -> x.removeAt(0, 1));
            breaks("1100", "3 1", "5", x -> x.wipe(0));
            breaks("1100", "3 1", "5", x -> x.sift(0, 3, 1));
            breaks("1100", "1 1", "5", x -> x.single(0));
            breaks("1000", "3 1", "5", x -> x.remove(1));
            breaks("1000", "3 1", "5", x -> x.thin(1, 1, 0));
        });
        told.description(2, "put an ITEM into its ROW or took one out", () -> {
            breaks("1100", "3 1", "5", x -> x.roll(0, 1));
            breaks("1100", "3", "5", x -> x.roll(0, 1));
            breaks("1100", "3 1", "5", x -> x.roll(0, 2));
            breaks("1110", "3 1", "5", x -> x.pass(0, 1, 2));
            breaks("1110", "3 1", "5", x -> x.pass(1, 0, 6));
        });
        told.description(2, "anything but this WALK", () -> {
            Cutwalks x = twoOver("3 1", "5");
            x.add(1, 8);
            x.fit(1, 0);
            x.forth(1);
            x.remove(1);
            x.thin(1, 1, 0);
            told.is(stale(x), "1000");
            told.is(x.forth(1), -1);
        });
        told.description(2, "or the ROW became another one by a call that says \"becomes\"", () -> {
            breaks("1100", "3 1", "5", x -> x.copy(0, 1));
            breaks("1100", "3 1", "5", x -> x.row(0, 1, 1, 3));
            breaks("1100", "3 1", "5", x -> x.merge(0, 1, 2));
            breaks("1100", "3 1", "5", x -> x.weave(0, 1, 2));
            breaks("1100", "3 1", "5", x -> x.pair(0, 1, 2));
            breaks("1100", "3 1", "0", x -> x.through(0, 1, 1));
            breaks("1100", "3 1", "5", x -> x.part(0, 1, 0, 0));
        });
        told.description(2, "(also if it has the same ITEMS then)", () -> {
            breaks("1100", "3 1", "3 1", x -> x.copy(0, 1));
            breaks("1100", "3 1", "5", x -> x.copy(0, 0));
            breaks("1100", "3 1", "5", x -> x.row(0, 3, 98, 2));
            breaks("1100", "3 1", "5", x -> x.merge(0, 0, 2));
            breaks("1100", "3 1", "5", x -> x.weave(0, 2, 0));
            breaks("1100", "3 1", "0 0", x -> x.pair(0, 0, 1));
            breaks("1100", "3 1", "0 1", x -> x.through(0, 0, 1));
            breaks("1100", "3 1", "5", x -> x.part(0, 0, 0, 2));
        });
        told.description(2, "(also if it has the same ITEMS then)", () -> {
            breaks("0001", "3 1", "5", x -> x.copy(2, 2));
            breaks("0001", "3 1", "5", x -> x.row(2, 0, 0, 0));
            breaks("0001", "3 1", "5", x -> x.merge(2, 2, 2));
            breaks("0001", "3 1", "5", x -> x.weave(2, 2, 3));
            breaks("0001", "3 1", "5", x -> x.pair(2, 0, 3));
            breaks("0001", "3 1", "5", x -> x.through(2, 0, 2));
            breaks("0001", "3 1", "5", x -> x.part(2, 0, 1, 1));
        });
        told.description(2, "it is STALE from then on", () -> {
            Cutwalks x = twoOver("3 1", "5");
            x.put(0, 9);
            x.removeAt(0, 2);
            told.is(x.text(0, false), "3 1");
            told.is(stale(x), "1100");
            x.open(1, 0, 0);
            told.is(stale(x), "1000");
            x.forth(0);
            x.round(0);
            told.is(stale(x), "1000");
        });
    }

    /** Each of these breaks a ROW 0 of three ITEMS for WALK 0, by putting in, taking out or becoming. */
    private static final List<Function<Cutwalks, Object>> BREAKING = List.of(
            x -> x.put(0, 9),
            x -> x.insert(0, 0, 9),
            x -> x.size(0) == 0 ? x.put(0, 9) : x.removeAt(0, 0),
            x -> x.wipe(0),
            x -> x.copy(0, 0),
            x -> x.row(0, 3, 1, 2),
            x -> x.add(3, 9),
            x -> x.remove(3),
            x -> x.thin(3, 1, 0),
            x -> x.merge(0, 0, 2),
            x -> x.part(0, 0, 0, 0),
            x -> x.sift(0, 1, 0),
            x -> x.roll(0, 1),
            x -> x.pass(0, 1, 99),
            x -> x.pass(1, 0, 99));

    /** Two of them, one behind the other, or with calls between, do not mend what the first one broke. */
    private static void staysStale() {
        told.description(2, "it is STALE from then on", () -> {
            for (Function<Cutwalks, Object> first : BREAKING) {
                for (Function<Cutwalks, Object> second : BREAKING) {
                    Cutwalks x = Sentences.rows("3 1 4", "5 6");
                    x.open(0, 0, 1);
                    x.open(3, 0, 0);
                    x.forth(3);
                    first.apply(x);
                    told.is(x.ofWalk(0, 6), 1);
                    x.open(3, 0, 0);
                    x.forth(3);
                    second.apply(x);
                    told.is(x.ofWalk(0, 6), 1);
                    second.apply(x);
                    told.is(x.ofWalk(0, 6), 1);
                    told.is(x.forth(0), -9);
                }
            }
        });
    }

    private static void notBroken() {
        told.description(2, "CHANGES, also those of the ROW itself, and turning ROUND break nothing", () -> {
            breaks("0000", "3 1", "5", x -> x.change(0, 0, 9));
            breaks("0000", "3 1", "5", x -> x.set(1, 9));
            breaks("0000", "3 1", "5", x -> x.round(0));
            breaks("0000", "3 1", "5", x -> x.round(2));
        });
        told.description(2, "the WALK tells what stands there then", () -> {
            Cutwalks x = twoOver("3 1 4", "5");
            x.change(0, 0, 9);
            told.is(Sentences.stand(x, 1), "9|1 4|1");
            x.set(1, 8);
            told.is(x.forth(0), 8);
            x.round(0);
            told.is(Sentences.stand(x, 1), "4|1 8|1");
            told.is(x.back(0), 4);
            x.set(1, 7);
            told.is(x.text(0, false), "7 1 8");
        });
        told.description(2, "A call that tells -9 breaks nothing", () -> {
            for (Told refused : REFUSED) {
                Cutwalks x = refusing();
                String rows = Sentences.text(x);
                told.is(refused.call().apply(x), -9);
                told.is(refused.name() + ": " + Sentences.text(x), refused.name() + ": " + rows);
                told.is(refused.name() + ": " + stale(x), refused.name() + ": 1000");
                told.is(Sentences.stand(x, 1), Sentences.FULL + "||0");
                told.is(Sentences.stand(x, 3), "7|12|0");
            }
        });
        told.description(2, "nor does one that puts nothing in and takes nothing out and does not say \"becomes\"", () -> {
            breaks("0000", "3 1", "5", x -> x.wipe(2));
            breaks("0000", "3 1", "5", x -> x.sift(0, 3, 2));
            breaks("0000", "3 1", "5", x -> x.sift(2, 1, 0));
            breaks("0000", "3 1 3", "5", x -> x.single(0));
            breaks("0000", "3 1", "5", x -> x.single(2));
            breaks("0000", "3 1", "5", x -> x.roll(0, 0));
            breaks("0000", "3 1", "5", x -> x.roll(2, 24));
            breaks("0000", "3 1", "5", x -> x.pass(0, 1, 1));
            breaks("0000", "3 1", "5", x -> x.pass(2, 0, 99));
            breaks("0000", "3 1", "5", x -> x.thin(1, 2, 0));
            breaks("0000", "3 1", "5", x -> x.thin(3, 1, 0));
        });
        told.description(2, "nor does one that puts nothing in and takes nothing out", () -> {
            breaks("0000", "3 1", "5", x -> x.forth(1));
            breaks("0000", "3 1", "5", x -> x.back(1));
            breaks("0000", "3 1", "5", x -> x.go(1, 12));
            breaks("0000", "3 1", "5", x -> x.seek(1, 50));
            breaks("0000", "3 1", "5", x -> x.twin(1, 1));
            breaks("0000", "3 1", "5", x -> x.open(1, 0, 2));
            breaks("0000", "3 1", "5", x -> x.isSound());
            breaks("0000", "3 1", "5", x -> x.digest());
            breaks("0-100", "3 1", "5", x -> x.shut(1));
        });
    }

    private static String made(String first, String second, Function<Cutwalks, Object> call) {
        Cutwalks x = Sentences.rows(first, second);
        call.apply(x);
        return x.text(2, false);
    }

    private static String merged(String first, String second) {
        return made(first, second, x -> x.merge(2, 0, 1));
    }

    private static String weaved(String first, String second) {
        return made(first, second, x -> x.weave(2, 0, 1));
    }

    private static void mergedAndWeaved() {
        told.description(3, "the lesser one of both first ones comes", () -> {
            told.is(merged("2 4", "1 3"), "1 2 3 4");
            told.is(merged("5 0", "4 9"), "4 5 0 9");
            told.is(merged("0", "99"), "0 99");
            told.is(merged("99", "0"), "0 99");
        });
        told.description(3, "of two alike that of the first ROW", () -> {
            told.is(merged("4 1", "4 9"), "4 1 4 9");
            told.is(merged("4 9", "4 1"), "4 4 1 9");
        });
        told.description(3, "as long as both have ITEMS left", () -> {
            told.is(merged("", ""), "");
            told.is(merged("", "3 1"), "3 1");
            told.is(merged("3 1", ""), "3 1");
        });
        told.description(3, "then what is left", () -> {
            told.is(merged("1 9 2", "5"), "1 5 9 2");
            told.is(merged("5", "1 9 2"), "1 5 9 2");
            told.is(merged("1 2 3 4 5 6", "7 8 9 10 11 12"), Sentences.FULL);
            told.is(merged("7 8 9 10 11 12", "1 2 3 4 5 6"), Sentences.FULL);
        });
        told.description(3, "by turns an ITEM of the first one and one of the second one", () -> {
            told.is(weaved("1 2", "8 9"), "1 8 2 9");
            told.is(weaved("9", "1"), "9 1");
        });
        told.description(3, "as long as both have some left; then what is left", () -> {
            told.is(weaved("1 2 3", "9"), "1 9 2 3");
            told.is(weaved("9", "1 2 3"), "9 1 2 3");
            told.is(weaved("", "1 2"), "1 2");
            told.is(weaved("1 2", ""), "1 2");
            told.is(weaved("", ""), "");
        });
    }

    private static String paired(String first, String second) {
        return made(first, second, x -> x.pair(2, 0, 1));
    }

    private static void pairedThroughSifted() {
        told.description(3, "PAIRED: as long as both have ITEMS left", () -> {
            told.is(paired("1 2 3", "4"), "5");
            told.is(paired("4", "1 2 3"), "5");
            told.is(paired("1", ""), "");
            told.is(paired("", "1"), "");
            told.is(paired("", ""), "");
        });
        told.description(3, "the rest of both first ones together by 100", () -> {
            told.is(paired("50 50 0 99 99", "49 50 0 0 99"), "99 0 0 99 98");
            told.is(paired("1", "99"), "0");
            told.is(paired("1", "98"), "99");
        });
        told.description(3, "for each ITEM p of a second ROW, one behind the other, the ITEM of the first ROW at the PLACE p",
                () -> {
                    told.is(made("30 10 40", "2 0 0 1", x -> x.through(2, 0, 1)), "40 30 30 10");
                    told.is(made("30 10 40", "", x -> x.through(2, 0, 1)), "");
                    told.is(made("", "", x -> x.through(2, 0, 1)), "");
                });
        told.description(3, "all ITEMS go whose rest by m is r", () -> {
            Cutwalks x = Sentences.rows("0 1 2 3 99");
            x.sift(0, 3, 0);
            told.is(x.text(0, false), "1 2");
            x.sift(0, 2, 1);
            told.is(x.text(0, false), "2");
            x.sift(0, 1, 0);
            told.is(x.text(0, false), "");
        });
    }

    private interface Make {
        int of(Cutwalks x, int row, int first, int second);
    }

    /** A ROW that becomes has the ITEMS which another one would have: be it the first, the second or both. */
    private static void itself(String first, String second, Make make) {
        Supplier<Cutwalks> rows = () -> Sentences.rows(first, second);
        int[][] which = {{0, 1}, {1, 0}, {0, 0}, {1, 1}};
        for (int[] of : which) {
            Cutwalks other = rows.get();
            int many = make.of(other, 2, of[0], of[1]);
            for (int row = 0; row <= 1; row++) {
                Cutwalks x = rows.get();
                told.is(make.of(x, row, of[0], of[1]), many);
                told.is(x.text(row, false), other.text(2, false));
                told.is(x.text(1 - row, false), row == 0 ? second : first);
            }
        }
    }

    private static void takenAsTheyWere() {
        String words = "In all of these ROWS are taken as they were ahead of the call, also if one of them is the one that becomes";
        told.description(3, words, () -> itself("5 1 9 3", "4 0 7", (x, row, a, b) -> x.merge(row, a, b)));
        told.description(3, words, () -> itself("5 1 9 3", "4 0 7", (x, row, a, b) -> x.weave(row, a, b)));
        told.description(3, words, () -> itself("5 1 99 3", "4 0 7", (x, row, a, b) -> x.pair(row, a, b)));
        told.description(3, words, () -> itself("1 2 3 0", "3 0 2 1", (x, row, a, b) -> x.through(row, a, b)));
    }
}
