import java.util.ArrayList;
import java.util.Collections;
import java.util.List;
import java.util.stream.Collectors;

/**
 * The document told once more in other words, to hold the class against: lists instead of arrays,
 * and a mark on each walk that is set wherever its row is broken, instead of states that are compared.
 */
final class Model {
    private final List<List<Integer>> rows = new ArrayList<>();
    private final Stand[] walks = new Stand[4];
    private int refused;
    private int knocks;

    private static final class Stand {
        int row;
        int cut;
        int last;
        boolean isStale;
    }

    Model() {
        for (int i = 0; i < 4; i++) {
            rows.add(new ArrayList<>());
        }
    }

    private static void index(boolean isWrong) {
        if (isWrong) {
            throw new IndexOutOfBoundsException();
        }
    }

    private static void argument(boolean isWrong) {
        if (isWrong) {
            throw new IllegalArgumentException();
        }
    }

    private List<Integer> row(int row) {
        index(row < 0 || row > 3);
        return rows.get(row);
    }

    private static void item(int item) {
        argument(item < 0 || item > 99);
    }

    private static void number(int walk) {
        index(walk < 0 || walk > 3);
    }

    private Stand there(int walk) {
        number(walk);
        if (walks[walk] == null) {
            throw new IllegalStateException();
        }
        return walks[walk];
    }

    private int refuse() {
        refused++;
        return -9;
    }

    private void breakFor(int row, Stand but) {
        for (Stand walk : walks) {
            if (walk != null && walk != but && walk.row == row) {
                walk.isStale = true;
            }
        }
    }

    private int becomes(int row, List<Integer> items) {
        rows.set(row, new ArrayList<>(items));
        breakFor(row, null);
        return items.size();
    }

    private static String text(List<Integer> items) {
        return items.stream().map(String::valueOf).collect(Collectors.joining(" "));
    }

    private static List<Integer> turned(List<Integer> items) {
        List<Integer> turned = new ArrayList<>(items);
        Collections.reverse(turned);
        return turned;
    }

    private static boolean rises(List<Integer> items) {
        List<Integer> sorted = new ArrayList<>(items);
        Collections.sort(sorted);
        return sorted.equals(items);
    }

    private static boolean within(List<Integer> few, List<Integer> all) {
        if (few.isEmpty()) {
            return true;
        }
        int place = all.indexOf(few.get(0));
        return place >= 0 && within(few.subList(1, few.size()), all.subList(place + 1, all.size()));
    }

    private static int order(List<Integer> one, List<Integer> two) {
        for (int i = 0; i < one.size() && i < two.size(); i++) {
            if (!one.get(i).equals(two.get(i))) {
                return one.get(i) < two.get(i) ? -1 : 1;
            }
        }
        return Integer.signum(one.size() - two.size());
    }

    private static List<Integer> merged(List<Integer> first, List<Integer> second) {
        List<Integer> one = new ArrayList<>(first);
        List<Integer> two = new ArrayList<>(second);
        List<Integer> all = new ArrayList<>();
        while (!one.isEmpty() && !two.isEmpty()) {
            all.add(two.get(0) < one.get(0) ? two.remove(0) : one.remove(0));
        }
        all.addAll(one);
        all.addAll(two);
        return all;
    }

    private static List<Integer> weaved(List<Integer> first, List<Integer> second) {
        List<Integer> one = new ArrayList<>(first);
        List<Integer> two = new ArrayList<>(second);
        List<Integer> all = new ArrayList<>();
        while (!one.isEmpty() && !two.isEmpty()) {
            all.add(one.remove(0));
            all.add(two.remove(0));
        }
        all.addAll(one);
        all.addAll(two);
        return all;
    }

    private int forth(Stand walk) {
        List<Integer> items = rows.get(walk.row);
        if (walk.cut == items.size()) {
            return -1;
        }
        walk.last = 1;
        return items.get(walk.cut++);
    }

    private int back(Stand walk) {
        if (walk.cut == 0) {
            return -1;
        }
        walk.last = 2;
        return rows.get(walk.row).get(--walk.cut);
    }

    private void put(Stand walk, int item) {
        rows.get(walk.row).add(walk.cut++, item);
        walk.last = 0;
        breakFor(walk.row, walk);
    }

    private void takeOut(Stand walk) {
        if (walk.last == 1) {
            walk.cut--;
        }
        rows.get(walk.row).remove(walk.cut);
        walk.last = 0;
        breakFor(walk.row, walk);
    }

    /** What a call answers; a is its arguments, a truth as 1 or 0. */
    Object call(String name, int... a) {
        switch (name) {
            case "put": {
                List<Integer> items = row(a[0]);
                item(a[1]);
                if (items.size() == 12) {
                    return refuse();
                }
                items.add(a[1]);
                breakFor(a[0], null);
                return items.size();
            }
            case "insert": {
                List<Integer> items = row(a[0]);
                index(a[1] < 0 || a[1] > items.size());
                item(a[2]);
                if (items.size() == 12) {
                    return refuse();
                }
                items.add(a[1], a[2]);
                breakFor(a[0], null);
                return items.size();
            }
            case "removeAt": {
                List<Integer> items = row(a[0]);
                index(a[1] < 0 || a[1] >= items.size());
                breakFor(a[0], null);
                return items.remove(a[1]);
            }
            case "change": {
                List<Integer> items = row(a[0]);
                index(a[1] < 0 || a[1] >= items.size());
                item(a[2]);
                return items.set(a[1], a[2]);
            }
            case "wipe": {
                int were = row(a[0]).size();
                if (were > 0) {
                    becomes(a[0], List.of());
                }
                return were;
            }
            case "copy": {
                boolean wasSame = row(a[0]).equals(row(a[1]));
                becomes(a[0], row(a[1]));
                return wasSame ? 1 : 0;
            }
            case "row": {
                row(a[0]);
                item(a[1]);
                item(a[2]);
                argument(a[3] < 0 || a[3] > 12);
                List<Integer> items = new ArrayList<>();
                for (int i = 0; i < a[3]; i++) {
                    items.add((a[1] + i * a[2]) % 100);
                }
                return becomes(a[0], items);
            }
            case "size":
                return row(a[0]).size();
            case "at":
                index(a[1] < 0 || a[1] >= row(a[0]).size());
                return row(a[0]).get(a[1]);
            case "text":
                return text(a[1] == 1 ? turned(row(a[0])) : row(a[0]));
            case "find":
                return a[2] == 1 ? row(a[0]).lastIndexOf(a[1]) : row(a[0]).indexOf(a[1]);
            case "sum":
                return row(a[0]).stream().mapToInt(i -> i).sum();
            case "count":
                return Collections.frequency(row(a[0]), a[1]);
            case "isSame":
                return row(a[0]).equals(row(a[1]));
            case "isRising":
                return rises(row(a[0]));
            case "isWithin":
                return within(row(a[0]), row(a[1]));
            case "order":
                return order(row(a[0]), row(a[1]));
            case "merge": {
                row(a[0]);
                List<Integer> all = merged(row(a[1]), row(a[2]));
                return all.size() > 12 ? refuse() : becomes(a[0], all);
            }
            case "weave": {
                row(a[0]);
                List<Integer> all = weaved(row(a[1]), row(a[2]));
                return all.size() > 12 ? refuse() : becomes(a[0], all);
            }
            case "pair": {
                row(a[0]);
                List<Integer> all = new ArrayList<>();
                for (int i = 0; i < row(a[1]).size() & i < row(a[2]).size(); i++) {
                    all.add((row(a[1]).get(i) + row(a[2]).get(i)) % 100);
                }
                return becomes(a[0], all);
            }
            case "through": {
                row(a[0]);
                List<Integer> all = new ArrayList<>();
                row(a[1]);
                for (int place : row(a[2])) {
                    if (place >= row(a[1]).size()) {
                        return refuse();
                    }
                    all.add(row(a[1]).get(place));
                }
                return becomes(a[0], all);
            }
            case "part":
                row(a[0]);
                index(a[2] < 0 || a[3] < a[2] || row(a[1]).size() < a[3]);
                return becomes(a[0], row(a[1]).subList(a[2], a[3]));
            case "sift": {
                row(a[0]);
                argument(a[1] < 1 || a[1] > 100 || a[2] < 0 || a[2] >= a[1]);
                List<Integer> kept = row(a[0]).stream().filter(i -> i % a[1] != a[2]).collect(Collectors.toList());
                int went = row(a[0]).size() - kept.size();
                if (went > 0) {
                    becomes(a[0], kept);
                }
                return went;
            }
            case "single": {
                List<Integer> items = row(a[0]);
                int went = 0;
                for (int i = items.size() - 1; i > 0; i--) {
                    if (items.get(i).equals(items.get(i - 1))) {
                        items.remove(i);
                        went++;
                    }
                }
                if (went > 0) {
                    breakFor(a[0], null);
                }
                return went;
            }
            case "round":
                Collections.reverse(row(a[0]));
                return row(a[0]).isEmpty() ? -1 : row(a[0]).get(0);
            case "roll": {
                List<Integer> items = row(a[0]);
                argument(a[1] < 0 || a[1] > 24);
                if (items.isEmpty()) {
                    return -1;
                }
                if (a[1] > 0) {
                    Collections.rotate(items, -a[1]);
                    breakFor(a[0], null);
                }
                return items.get(0);
            }
            case "pass": {
                List<Integer> from = row(a[0]);
                List<Integer> to = row(a[1]);
                argument(a[0] == a[1]);
                item(a[2]);
                List<Integer> less = from.stream().filter(i -> i < a[2]).collect(Collectors.toList());
                if (to.size() + less.size() > 12) {
                    return refuse();
                }
                if (!less.isEmpty()) {
                    from.removeIf(i -> i < a[2]);
                    to.addAll(less);
                    breakFor(a[0], null);
                    breakFor(a[1], null);
                }
                return less.size();
            }
            case "knock":
                return ++knocks;
            case "house":
                argument(a[0] < 0 || a[0] > 5);
                return house(a[0]);
            case "isSound":
                // Each of its sentences holds in every state: by the meaning of the words, not by chance.
                return true;
            case "digest":
                return digest();
            default:
                return callOfWalk(name, a);
        }
    }

    private Object callOfWalk(String name, int... a) {
        number(a[0]);
        switch (name) {
            case "open": {
                index(a[2] < 0 || a[2] > row(a[1]).size());
                walks[a[0]] = new Stand();
                walks[a[0]].row = a[1];
                walks[a[0]].cut = a[2];
                return row(a[1]).size() - a[2];
            }
            case "twin": {
                Stand other = there(a[1]);
                if (other.isStale) {
                    return refuse();
                }
                Stand walk = new Stand();
                walk.row = other.row;
                walk.cut = other.cut;
                walks[a[0]] = walk;
                return walk.cut;
            }
            case "shut": {
                boolean was = walks[a[0]] != null;
                walks[a[0]] = null;
                return was ? 1 : 0;
            }
            case "ofWalk":
                argument(a[1] < 0 || a[1] > 6);
                return ofWalk(walks[a[0]], a[1]);
            case "ahead": {
                Stand walk = walks[a[0]];
                return walk == null || walk.isStale ? "-" : text(rows.get(walk.row).subList(0, walk.cut));
            }
            case "behind": {
                Stand walk = walks[a[0]];
                return walk == null || walk.isStale ? "-"
                        : text(rows.get(walk.row).subList(walk.cut, rows.get(walk.row).size()));
            }
            case "go":
                argument(a[1] < -12 || a[1] > 12);
                break;
            case "thin":
                argument(a[1] < 1 || a[1] > 100 || a[2] < 0 || a[2] >= a[1]);
                break;
            case "seek":
            case "add":
            case "set":
            case "fit":
                item(a[1]);
                break;
            default:
        }
        Stand walk = there(a[0]);
        return walk.isStale ? refuse() : move(name, walk, a);
    }

    private Object move(String name, Stand walk, int... a) {
        List<Integer> items = rows.get(walk.row);
        switch (name) {
            case "forth":
                return forth(walk);
            case "back":
                return back(walk);
            case "go": {
                int told = 0;
                for (int i = 0; i < Math.abs(a[1]); i++) {
                    if ((a[1] > 0 ? forth(walk) : back(walk)) >= 0) {
                        told++;
                    }
                }
                return told;
            }
            case "seek": {
                int told = forth(walk);
                while (told >= 0 && told != a[1]) {
                    told = forth(walk);
                }
                return told < 0 ? -1 : walk.cut;
            }
            case "add":
                if (items.size() == 12) {
                    return refuse();
                }
                put(walk, a[1]);
                return walk.cut;
            case "set":
                if (walk.last == 0) {
                    return refuse();
                }
                items.set(walk.last == 1 ? walk.cut - 1 : walk.cut, a[1]);
                return walk.cut;
            case "remove":
                if (walk.last == 0) {
                    return refuse();
                }
                takeOut(walk);
                return walk.cut;
            case "thin": {
                int went = 0;
                for (int told = forth(walk); told >= 0; told = forth(walk)) {
                    if (told % a[1] == a[2]) {
                        takeOut(walk);
                        went++;
                    }
                }
                return went;
            }
            case "fit": {
                if (items.size() == 12) {
                    return refuse();
                }
                int told = back(walk);
                while (told > a[1]) {
                    told = back(walk);
                }
                if (told >= 0) {
                    forth(walk);
                }
                put(walk, a[1]);
                return walk.cut;
            }
            default:
                throw new UnsupportedOperationException(name);
        }
    }

    private int ofWalk(Stand walk, int what) {
        if (walk == null) {
            return -1;
        }
        int size = rows.get(walk.row).size();
        int stale = walk.isStale ? 1 : 0;
        int[] all = {walk.row, walk.cut, walk.cut - 1, walk.cut < size ? 1 : 0, walk.cut > 0 ? 1 : 0, walk.last, stale};
        return walk.isStale && what > 0 && what < 6 ? -1 : all[what];
    }

    private int house(int what) {
        int items = 0;
        int rising = 0;
        for (List<Integer> row : rows) {
            items += row.size();
            rising += rises(row) ? 1 : 0;
        }
        int there = 0;
        int stale = 0;
        for (Stand walk : walks) {
            there += walk == null ? 0 : 1;
            stale += walk != null && walk.isStale ? 1 : 0;
        }
        return new int[] {items, there, stale, refused, knocks, rising}[what];
    }

    private long digest() {
        List<Object> all = new ArrayList<>();
        for (int row = 0; row < 4; row++) {
            Collections.addAll(all, call("size", row), call("text", row, 0), call("text", row, 1), call("sum", row),
                    call("isRising", row));
        }
        for (int row = 0; row < 4; row++) {
            for (int other = 0; other < 4; other++) {
                Collections.addAll(all, call("order", row, other), call("isWithin", row, other));
            }
        }
        for (int walk = 0; walk < 4; walk++) {
            for (int what = 0; what <= 6; what++) {
                all.add(call("ofWalk", walk, what));
            }
            Collections.addAll(all, call("ahead", walk), call("behind", walk));
        }
        for (int what = 0; what <= 5; what++) {
            all.add(house(what));
        }
        all.add(true);
        long d = 7840;
        for (Object value : all) {
            if (value instanceof String) {
                String text = (String) value;
                d = d * 31 + text.length();
                for (int i = 0; i < text.length(); i++) {
                    d = d * 31 + text.charAt(i);
                }
            } else if (value instanceof Boolean) {
                d = d * 31 + ((Boolean) value ? 1 : 0);
            } else {
                d = d * 31 + (Integer) value;
            }
        }
        return d;
    }
}
