/**
 * Four rows of numbers, and four walks over them, each of which stands at a cut
 * of its row. What is asked of each method stands in the document, as promises.
 */
public final class Cutwalks {
    private static final int NONE = -1;
    private static final int REFUSED = -9;
    private static final int ROWS = 4;
    private static final int WALKS = 4;
    private static final int MOST_ITEMS = 12;
    private static final int ITEM_BOUND = 100;
    private static final int MOST_ROLLS = 24;
    private static final int OF_WALK_ROW = 0;
    private static final int OF_WALK_STALE = 6;
    private static final int OF_HOUSE_LAST = 5;
    private static final int LAST_NONE = 0;
    private static final int LAST_AHEAD = 1;
    private static final int LAST_BEHIND = 2;
    private static final long DIGEST_START = 7840L;
    // isSound() merges two full rows on copies, so a row has room for both.
    private static final int ROOM = 2 * MOST_ITEMS;

    private final Row[] rows = new Row[ROWS];
    private final Walk[] walks = new Walk[WALKS];
    // What is made of rows stands here first: the row that becomes may be one of those it is made of.
    private final Row made = new Row(NONE);
    private final Trial trial = new Trial();
    private final StringBuilder signs = new StringBuilder();
    private int refusals;
    private int knocks;

    public Cutwalks() {
        for (int row = 0; row < ROWS; row++) {
            rows[row] = new Row(row);
        }
        for (int walk = 0; walk < WALKS; walk++) {
            walks[walk] = new Walk();
        }
    }

    // ---- rows

    public int put(int row, int item) throws IndexOutOfBoundsException, IllegalArgumentException {
        Row target = rowOf(row);
        checkItem(item);
        if (target.isFull()) {
            return refuse();
        }
        target.append(item);
        return target.many();
    }

    public int insert(int row, int place, int item) throws IndexOutOfBoundsException, IllegalArgumentException {
        Row target = rowOf(row);
        checkCut(target, place);
        checkItem(item);
        if (target.isFull()) {
            return refuse();
        }
        target.putAt(place, item);
        return target.many();
    }

    public int removeAt(int row, int place) throws IndexOutOfBoundsException {
        Row target = rowOf(row);
        checkPlace(target, place);
        return target.takeAt(place);
    }

    public int change(int row, int place, int item) throws IndexOutOfBoundsException, IllegalArgumentException {
        Row target = rowOf(row);
        checkPlace(target, place);
        checkItem(item);
        return target.changeAt(place, item);
    }

    public int wipe(int row) throws IndexOutOfBoundsException {
        return rowOf(row).keepFirst(0);
    }

    public int copy(int row, int other) throws IndexOutOfBoundsException {
        Row target = rowOf(row);
        Row source = rowOf(other);
        int wasSame = numberOf(target.isSameAs(source));
        target.become(source);
        return wasSame;
    }

    public int row(int row, int first, int step, int many) throws IndexOutOfBoundsException, IllegalArgumentException {
        Row target = rowOf(row);
        checkItem(first);
        checkItem(step);
        if (many < 0 || many > MOST_ITEMS) {
            throw new IllegalArgumentException("many is not 0 to 12");
        }
        made.becomeSteps(first, step, many);
        return becomeMade(target);
    }

    public int size(int row) throws IndexOutOfBoundsException {
        return rowOf(row).many();
    }

    public int at(int row, int place) throws IndexOutOfBoundsException {
        Row target = rowOf(row);
        checkPlace(target, place);
        return target.itemAt(place);
    }

    public String text(int row, boolean isRound) throws IndexOutOfBoundsException {
        writeRow(rowOf(row), isRound);
        return signs.toString();
    }

    public int find(int row, int item, boolean isLast) throws IndexOutOfBoundsException {
        Row target = rowOf(row);
        return isLast ? target.lastPlaceOf(item) : target.firstPlaceOf(item);
    }

    public int sum(int row) throws IndexOutOfBoundsException {
        return rowOf(row).total();
    }

    public int count(int row, int item) throws IndexOutOfBoundsException {
        return rowOf(row).timesOf(item);
    }

    public boolean isSame(int row, int other) throws IndexOutOfBoundsException {
        Row target = rowOf(row);
        return target.isSameAs(rowOf(other));
    }

    public boolean isRising(int row) throws IndexOutOfBoundsException {
        return rowOf(row).rises();
    }

    public boolean isWithin(int row, int other) throws IndexOutOfBoundsException {
        Row target = rowOf(row);
        return target.standsIn(rowOf(other));
    }

    public int order(int row, int other) throws IndexOutOfBoundsException {
        Row target = rowOf(row);
        return target.comparedWith(rowOf(other));
    }

    // ---- walks

    public int open(int walk, int row, int cut) throws IndexOutOfBoundsException {
        Walk opened = walkOf(walk);
        Row target = rowOf(row);
        checkCut(target, cut);
        opened.begin(target, cut);
        return target.many() - cut;
    }

    public int twin(int walk, int other) throws IndexOutOfBoundsException, IllegalStateException {
        Walk begun = walkOf(walk);
        Walk model = presentWalk(other);
        if (model.isStale()) {
            return refuse();
        }
        begun.begin(model.overRow(), model.cut());
        return begun.cut();
    }

    public int shut(int walk) throws IndexOutOfBoundsException {
        Walk ended = walkOf(walk);
        int wasThere = numberOf(ended.isThere());
        ended.end();
        return wasThere;
    }

    public int forth(int walk) throws IndexOutOfBoundsException, IllegalStateException {
        Walk walking = presentWalk(walk);
        return walking.isStale() ? refuse() : walking.tellForth();
    }

    public int back(int walk) throws IndexOutOfBoundsException, IllegalStateException {
        Walk walking = presentWalk(walk);
        return walking.isStale() ? refuse() : walking.tellBack();
    }

    public int go(int walk, int many) throws IndexOutOfBoundsException, IllegalArgumentException, IllegalStateException {
        checkWalk(walk);
        if (many < -MOST_ITEMS || many > MOST_ITEMS) {
            throw new IllegalArgumentException("many is not -12 to 12");
        }
        Walk walking = presentWalk(walk);
        return walking.isStale() ? refuse() : walking.goFar(many);
    }

    public int seek(int walk, int item) throws IndexOutOfBoundsException, IllegalArgumentException, IllegalStateException {
        Walk walking = presentWalkForItem(walk, item);
        return walking.isStale() ? refuse() : walking.seekItem(item);
    }

    public int add(int walk, int item) throws IndexOutOfBoundsException, IllegalArgumentException, IllegalStateException {
        Walk walking = presentWalkForItem(walk, item);
        if (!walking.canPut()) {
            return refuse();
        }
        walking.putIn(item);
        return walking.cut();
    }

    public int set(int walk, int item) throws IndexOutOfBoundsException, IllegalArgumentException, IllegalStateException {
        Walk walking = presentWalkForItem(walk, item);
        if (!walking.hasLast()) {
            return refuse();
        }
        walking.changeLast(item);
        return walking.cut();
    }

    public int remove(int walk) throws IndexOutOfBoundsException, IllegalStateException {
        Walk walking = presentWalk(walk);
        if (!walking.hasLast()) {
            return refuse();
        }
        walking.takeOut();
        return walking.cut();
    }

    public int thin(int walk, int m, int r) throws IndexOutOfBoundsException, IllegalArgumentException, IllegalStateException {
        checkWalk(walk);
        checkRest(m, r);
        Walk walking = presentWalk(walk);
        return walking.isStale() ? refuse() : walking.thinOut(m, r);
    }

    public int fit(int walk, int item) throws IndexOutOfBoundsException, IllegalArgumentException, IllegalStateException {
        Walk walking = presentWalkForItem(walk, item);
        return walking.canPut() ? walking.fitIn(item) : refuse();
    }

    public int ofWalk(int walk, int what) throws IndexOutOfBoundsException, IllegalArgumentException {
        Walk asked = walkOf(walk);
        if (what < OF_WALK_ROW || what > OF_WALK_STALE) {
            throw new IllegalArgumentException("what is not 0 to 6");
        }
        return asked.tellOf(what);
    }

    public String ahead(int walk) throws IndexOutOfBoundsException {
        writeAhead(walkOf(walk));
        return signs.toString();
    }

    public String behind(int walk) throws IndexOutOfBoundsException {
        writeBehind(walkOf(walk));
        return signs.toString();
    }

    // ---- what walks make

    public int merge(int row, int first, int second) throws IndexOutOfBoundsException {
        Row target = rowOf(row);
        Row one = rowOf(first);
        Row two = rowOf(second);
        if (one.many() + two.many() > MOST_ITEMS) {
            return refuse();
        }
        made.becomeMerged(one, two);
        return becomeMade(target);
    }

    public int weave(int row, int first, int second) throws IndexOutOfBoundsException {
        Row target = rowOf(row);
        Row one = rowOf(first);
        Row two = rowOf(second);
        if (one.many() + two.many() > MOST_ITEMS) {
            return refuse();
        }
        made.becomeWeaved(one, two);
        return becomeMade(target);
    }

    public int pair(int row, int first, int second) throws IndexOutOfBoundsException {
        Row target = rowOf(row);
        Row one = rowOf(first);
        Row two = rowOf(second);
        made.becomePaired(one, two);
        return becomeMade(target);
    }

    public int through(int row, int first, int second) throws IndexOutOfBoundsException {
        Row target = rowOf(row);
        Row one = rowOf(first);
        Row places = rowOf(second);
        if (!places.holdsPlacesOf(one)) {
            return refuse();
        }
        made.becomeThrough(one, places);
        return becomeMade(target);
    }

    public int part(int row, int other, int from, int to) throws IndexOutOfBoundsException {
        Row target = rowOf(row);
        Row source = rowOf(other);
        if (from < 0 || from > to || to > source.many()) {
            throw new IndexOutOfBoundsException("0, from, to and the size do not rise");
        }
        made.becomePart(source, from, to);
        return becomeMade(target);
    }

    public int sift(int row, int m, int r) throws IndexOutOfBoundsException, IllegalArgumentException {
        Row target = rowOf(row);
        checkRest(m, r);
        return target.siftOut(m, r);
    }

    public int single(int row) throws IndexOutOfBoundsException {
        return rowOf(row).dropRepeats();
    }

    public int round(int row) throws IndexOutOfBoundsException {
        Row target = rowOf(row);
        target.turn();
        return target.itemAt(0);
    }

    public int roll(int row, int many) throws IndexOutOfBoundsException, IllegalArgumentException {
        Row target = rowOf(row);
        if (many < 0 || many > MOST_ROLLS) {
            throw new IllegalArgumentException("many is not 0 to 24");
        }
        for (int time = 0; time < many; time++) {
            target.rollOnce();
        }
        return target.itemAt(0);
    }

    public int pass(int row, int other, int item) throws IndexOutOfBoundsException, IllegalArgumentException {
        Row source = rowOf(row);
        Row target = rowOf(other);
        if (row == other) {
            throw new IllegalArgumentException("both rows are the same");
        }
        checkItem(item);
        if (target.many() + source.howManyLess(item) > MOST_ITEMS) {
            return refuse();
        }
        target.appendLess(source, item);
        return source.dropLess(item);
    }

    // ---- the house

    public int knock() {
        knocks++;
        return knocks;
    }

    public int house(int what) throws IllegalArgumentException {
        if (what < 0 || what > OF_HOUSE_LAST) {
            throw new IllegalArgumentException("what is not 0 to 5");
        }
        return tellOfHouse(what);
    }

    public boolean isSound() {
        return areWalksSound() && areRowsSound() && areTwosSound();
    }

    public long digest() {
        long d = digestRows(DIGEST_START);
        d = digestTwos(d);
        d = digestWalks(d);
        for (int what = 0; what <= OF_HOUSE_LAST; what++) {
            d = mixed(d, tellOfHouse(what));
        }
        return mixed(d, numberOf(isSound()));
    }

    // ---- what is looked at ahead of a call

    private Row rowOf(int row) {
        if (row < 0 || row >= ROWS) {
            throw new IndexOutOfBoundsException("no such row");
        }
        return rows[row];
    }

    private static void checkWalk(int walk) {
        if (walk < 0 || walk >= WALKS) {
            throw new IndexOutOfBoundsException("no such walk");
        }
    }

    private Walk walkOf(int walk) {
        checkWalk(walk);
        return walks[walk];
    }

    private Walk presentWalk(int walk) {
        Walk present = walkOf(walk);
        if (!present.isThere()) {
            throw new IllegalStateException("no such walk now");
        }
        return present;
    }

    private Walk presentWalkForItem(int walk, int item) {
        checkWalk(walk);
        checkItem(item);
        return presentWalk(walk);
    }

    private static void checkItem(int item) {
        if (item < 0 || item >= ITEM_BOUND) {
            throw new IllegalArgumentException("not 0 to 99");
        }
    }

    private static void checkPlace(Row row, int place) {
        if (!row.isPlace(place)) {
            throw new IndexOutOfBoundsException("no such place");
        }
    }

    private static void checkCut(Row row, int cut) {
        if (cut < 0 || cut > row.many()) {
            throw new IndexOutOfBoundsException("not 0 to how many items there are");
        }
    }

    private static void checkRest(int m, int r) {
        if (m < 1 || m > ITEM_BOUND || r < 0 || r >= m) {
            throw new IllegalArgumentException("m is not 1 to 100, or r not 0 to m - 1");
        }
    }

    // ---- what several calls need

    private int refuse() {
        refusals++;
        return REFUSED;
    }

    private int becomeMade(Row target) {
        target.become(made);
        return target.many();
    }

    private static int numberOf(boolean isSo) {
        return isSo ? 1 : 0;
    }

    private static boolean hasRest(int item, int m, int r) {
        return m > 0 && Math.floorMod(item, m) == r;
    }

    // ---- texts: written into one builder, from which the digest reads them without a copy

    private void writeRow(Row row, boolean isRound) {
        signs.setLength(0);
        if (isRound) {
            row.writeRoundTo(signs);
        } else {
            row.writePartTo(signs, 0, row.many());
        }
    }

    private void writeAhead(Walk walk) {
        signs.setLength(0);
        if (walk.isFresh()) {
            walk.overRow().writePartTo(signs, 0, walk.cut());
        } else {
            signs.append('-');
        }
    }

    private void writeBehind(Walk walk) {
        signs.setLength(0);
        if (walk.isFresh()) {
            walk.overRow().writePartTo(signs, walk.cut(), walk.overRow().many());
        } else {
            signs.append('-');
        }
    }

    // ---- the house's parts

    private int tellOfHouse(int what) {
        switch (what) {
            case 0:
                return allItems();
            case 1:
                return walksThere();
            case 2:
                return walksStale();
            case 3:
                return refusals;
            case 4:
                return knocks;
            default:
                return rowsThatRise();
        }
    }

    private int allItems() {
        int all = 0;
        for (Row row : rows) {
            all += row.many();
        }
        return all;
    }

    private int walksThere() {
        int there = 0;
        for (Walk walk : walks) {
            there += numberOf(walk.isThere());
        }
        return there;
    }

    private int walksStale() {
        int stale = 0;
        for (Walk walk : walks) {
            stale += numberOf(walk.isStale());
        }
        return stale;
    }

    private int rowsThatRise() {
        int rising = 0;
        for (Row row : rows) {
            rising += numberOf(row.rises());
        }
        return rising;
    }

    private boolean areWalksSound() {
        for (Walk walk : walks) {
            if (walk.isFresh() && !trial.holdsForWalk(walk)) {
                return false;
            }
        }
        return true;
    }

    private boolean areRowsSound() {
        for (Row row : rows) {
            if (!trial.holdsForRow(row)) {
                return false;
            }
        }
        return true;
    }

    private boolean areTwosSound() {
        for (Row first : rows) {
            for (Row second : rows) {
                if (first != second && !trial.holdsForTwo(first, second)) {
                    return false;
                }
            }
        }
        return true;
    }

    // ---- the digest's parts

    private static long mixed(long d, long v) {
        return d * 31L + v;
    }

    private long mixedWithSigns(long d) {
        int length = signs.length();
        long mix = mixed(d, length);
        for (int place = 0; place < length; place++) {
            mix = mixed(mix, signs.charAt(place));
        }
        return mix;
    }

    private long digestRows(long d) {
        long mix = d;
        for (Row row : rows) {
            mix = mixed(mix, row.many());
            writeRow(row, false);
            mix = mixedWithSigns(mix);
            writeRow(row, true);
            mix = mixedWithSigns(mix);
            mix = mixed(mix, row.total());
            mix = mixed(mix, numberOf(row.rises()));
        }
        return mix;
    }

    private long digestTwos(long d) {
        long mix = d;
        for (Row row : rows) {
            for (Row other : rows) {
                mix = mixed(mix, row.comparedWith(other));
                mix = mixed(mix, numberOf(row.standsIn(other)));
            }
        }
        return mix;
    }

    private long digestWalks(long d) {
        long mix = d;
        for (Walk walk : walks) {
            for (int what = OF_WALK_ROW; what <= OF_WALK_STALE; what++) {
                mix = mixed(mix, walk.tellOf(what));
            }
            writeAhead(walk);
            mix = mixedWithSigns(mix);
            writeBehind(walk);
            mix = mixedWithSigns(mix);
        }
        return mix;
    }

    /**
     * Items one behind the other. Each put or take, and each becoming, makes
     * another state of it, by which a walk knows whether its row was broken.
     */
    private static final class Row {
        private final int number;
        private final int[] items = new int[ROOM];
        private int many;
        private int state;

        Row(int number) {
            this.number = number;
        }

        int number() {
            return number;
        }

        int many() {
            return many;
        }

        int state() {
            return state;
        }

        boolean isFull() {
            return many >= MOST_ITEMS;
        }

        boolean isPlace(int place) {
            return place >= 0 && place < many;
        }

        int itemAt(int place) {
            return place >= 0 && place < many ? items[place] : NONE;
        }

        void putAt(int place, int item) {
            if (place < 0 || place > many || many >= ROOM) {
                return;
            }
            for (int later = many; later > place; later--) {
                items[later] = items[later - 1];
            }
            items[place] = item;
            many++;
            state++;
        }

        void append(int item) {
            if (many < ROOM) {
                items[many] = item;
                many++;
                state++;
            }
        }

        int takeAt(int place) {
            if (!isPlace(place)) {
                return NONE;
            }
            int taken = items[place];
            for (int later = place + 1; later < many; later++) {
                items[later - 1] = items[later];
            }
            many--;
            state++;
            return taken;
        }

        int changeAt(int place, int item) {
            if (!isPlace(place)) {
                return NONE;
            }
            int before = items[place];
            items[place] = item;
            return before;
        }

        // The state stays if none goes: what took nothing out breaks no walk.
        int keepFirst(int kept) {
            if (kept < 0 || kept >= many) {
                return 0;
            }
            int went = many - kept;
            many = kept;
            state++;
            return went;
        }

        void rollOnce() {
            if (many > 0) {
                append(takeAt(0));
            }
        }

        void turn() {
            for (int place = 0; place < many / 2; place++) {
                int mirror = many - 1 - place;
                int item = items[place];
                items[place] = items[mirror];
                items[mirror] = item;
            }
        }

        int firstPlaceOf(int item) {
            for (int place = 0; place < many; place++) {
                if (items[place] == item) {
                    return place;
                }
            }
            return NONE;
        }

        int lastPlaceOf(int item) {
            for (int place = many - 1; place >= 0; place--) {
                if (items[place] == item) {
                    return place;
                }
            }
            return NONE;
        }

        int timesOf(int item) {
            int times = 0;
            for (int place = 0; place < many; place++) {
                times += numberOf(items[place] == item);
            }
            return times;
        }

        int total() {
            int total = 0;
            for (int place = 0; place < many; place++) {
                total += items[place];
            }
            return total;
        }

        boolean rises() {
            for (int place = 1; place < many; place++) {
                if (items[place] < items[place - 1]) {
                    return false;
                }
            }
            return true;
        }

        // NONE is less than every item, so the row that ends first is the lesser one.
        int comparedWith(Row other) {
            int longest = Math.max(many, other.many);
            for (int place = 0; place < longest; place++) {
                int item = itemAt(place);
                int otherItem = other.itemAt(place);
                if (item != otherItem) {
                    return item < otherItem ? -1 : 1;
                }
            }
            return 0;
        }

        boolean isSameAs(Row other) {
            if (many != other.many) {
                return false;
            }
            for (int place = 0; place < many; place++) {
                if (items[place] != other.items[place]) {
                    return false;
                }
            }
            return true;
        }

        boolean standsIn(Row other) {
            int found = 0;
            for (int place = 0; place < other.many; place++) {
                if (found < many && items[found] == other.items[place]) {
                    found++;
                }
            }
            return found == many;
        }

        boolean holdsPlacesOf(Row other) {
            for (int place = 0; place < many; place++) {
                if (!other.isPlace(items[place])) {
                    return false;
                }
            }
            return true;
        }

        int siftOut(int m, int r) {
            int kept = 0;
            for (int place = 0; place < many; place++) {
                if (!hasRest(items[place], m, r)) {
                    items[kept] = items[place];
                    kept++;
                }
            }
            return keepFirst(kept);
        }

        int dropRepeats() {
            int kept = 0;
            int before = NONE;
            for (int place = 0; place < many; place++) {
                int item = items[place];
                if (item != before) {
                    items[kept] = item;
                    kept++;
                }
                before = item;
            }
            return keepFirst(kept);
        }

        int howManyLess(int bound) {
            int less = 0;
            for (int place = 0; place < many; place++) {
                less += numberOf(items[place] < bound);
            }
            return less;
        }

        int dropLess(int bound) {
            int kept = 0;
            for (int place = 0; place < many; place++) {
                if (items[place] >= bound) {
                    items[kept] = items[place];
                    kept++;
                }
            }
            return keepFirst(kept);
        }

        void appendLess(Row source, int bound) {
            for (int place = 0; place < source.many; place++) {
                if (source.items[place] < bound) {
                    append(source.items[place]);
                }
            }
        }

        void appendPart(Row source, int from, int to) {
            for (int place = from; place < to; place++) {
                append(source.itemAt(place));
            }
        }

        // The state moves on even if the items are the same: becoming breaks always.
        void become(Row other) {
            for (int place = 0; place < other.many; place++) {
                items[place] = other.items[place];
            }
            many = other.many;
            state++;
        }

        void becomeSteps(int first, int step, int howMany) {
            keepFirst(0);
            for (int time = 0; time < howMany; time++) {
                append((first + time * step) % ITEM_BOUND);
            }
        }

        void becomeMerged(Row first, Row second) {
            keepFirst(0);
            int all = first.many + second.many;
            int ofFirst = 0;
            int ofSecond = 0;
            for (int time = 0; time < all; time++) {
                if (takesFirst(first.itemAt(ofFirst), second.itemAt(ofSecond))) {
                    append(first.itemAt(ofFirst));
                    ofFirst++;
                } else {
                    append(second.itemAt(ofSecond));
                    ofSecond++;
                }
            }
        }

        private static boolean takesFirst(int ofFirst, int ofSecond) {
            return ofSecond == NONE || (ofFirst != NONE && ofFirst <= ofSecond);
        }

        void becomeWeaved(Row first, Row second) {
            keepFirst(0);
            int longest = Math.max(first.many, second.many);
            for (int place = 0; place < longest; place++) {
                if (first.isPlace(place)) {
                    append(first.items[place]);
                }
                if (second.isPlace(place)) {
                    append(second.items[place]);
                }
            }
        }

        void becomePaired(Row first, Row second) {
            keepFirst(0);
            int shortest = Math.min(first.many, second.many);
            for (int place = 0; place < shortest; place++) {
                append((first.items[place] + second.items[place]) % ITEM_BOUND);
            }
        }

        void becomeThrough(Row first, Row places) {
            keepFirst(0);
            for (int place = 0; place < places.many; place++) {
                append(first.itemAt(places.items[place]));
            }
        }

        void becomePart(Row source, int from, int to) {
            keepFirst(0);
            appendPart(source, from, to);
        }

        void writePartTo(StringBuilder signs, int from, int to) {
            for (int place = from; place < to; place++) {
                if (place > from) {
                    signs.append(' ');
                }
                signs.append(itemAt(place));
            }
        }

        void writeRoundTo(StringBuilder signs) {
            for (int place = many - 1; place >= 0; place--) {
                signs.append(items[place]);
                if (place > 0) {
                    signs.append(' ');
                }
            }
        }
    }

    /** A stand at a cut of a row; it is stale once its row went on to a state that it did not make. */
    private static final class Walk {
        // A walk that never began stands over a row of its own, so that this is never null.
        private Row row = new Row(NONE);
        private boolean isThere;
        private int cut;
        private int last;
        private int knownState;

        void begin(Row over, int at) {
            row = over;
            isThere = true;
            cut = at;
            last = LAST_NONE;
            knownState = over.state();
        }

        void end() {
            isThere = false;
        }

        boolean isThere() {
            return isThere;
        }

        boolean isStale() {
            return isThere && knownState != row.state();
        }

        boolean isFresh() {
            return isThere && knownState == row.state();
        }

        boolean canPut() {
            return isFresh() && !row.isFull();
        }

        boolean hasLast() {
            return isFresh() && last != LAST_NONE;
        }

        Row overRow() {
            return row;
        }

        int cut() {
            return cut;
        }

        int tellForth() {
            int item = row.itemAt(cut);
            if (item != NONE) {
                cut++;
                last = LAST_AHEAD;
            }
            return item;
        }

        int tellBack() {
            int item = row.itemAt(cut - 1);
            if (item != NONE) {
                cut--;
                last = LAST_BEHIND;
            }
            return item;
        }

        void putIn(int item) {
            row.putAt(cut, item);
            cut++;
            last = LAST_NONE;
            knownState = row.state();
        }

        void takeOut() {
            if (last == LAST_AHEAD) {
                cut--;
            }
            row.takeAt(cut);
            last = LAST_NONE;
            knownState = row.state();
        }

        void changeLast(int item) {
            row.changeAt(last == LAST_AHEAD ? cut - 1 : cut, item);
        }

        int goFar(int howFar) {
            int far = Math.abs(howFar);
            int told = 0;
            for (int time = 0; time < far; time++) {
                int item = howFar < 0 ? tellBack() : tellForth();
                told += numberOf(item != NONE);
            }
            return told;
        }

        int seekItem(int item) {
            int left = row.many() - cut;
            for (int time = 0; time < left; time++) {
                if (tellForth() == item) {
                    return cut;
                }
            }
            return NONE;
        }

        int thinOut(int m, int r) {
            int left = row.many() - cut;
            int went = 0;
            for (int time = 0; time < left; time++) {
                if (hasRest(tellForth(), m, r)) {
                    takeOut();
                    went++;
                }
            }
            return went;
        }

        int fitIn(int item) {
            int left = cut;
            boolean isNoGreater = false;
            for (int time = 0; time < left && !isNoGreater; time++) {
                isNoGreater = tellBack() <= item;
            }
            if (isNoGreater) {
                tellForth();
            }
            putIn(item);
            return cut;
        }

        int tellOf(int what) {
            if (!isThere) {
                return NONE;
            }
            switch (what) {
                case OF_WALK_ROW:
                    return row.number();
                case OF_WALK_STALE:
                    return numberOf(isStale());
                default:
                    return isStale() ? NONE : tellOfStand(what);
            }
        }

        private int tellOfStand(int what) {
            switch (what) {
                case 1:
                    return cut;
                case 2:
                    return cut - 1;
                case 3:
                    return numberOf(cut < row.many());
                case 4:
                    return numberOf(cut > 0);
                default:
                    return last;
            }
        }
    }

    /** Tries on copies what isSound() asks of walks, of rows and of each two rows. */
    private static final class Trial {
        private static final int TRIED_ITEM = 7;

        private final Row copied = new Row(NONE);
        private final Row tried = new Row(NONE);
        private final Walk walk = new Walk();

        boolean holdsForWalk(Walk real) {
            int cut = real.cut();
            copied.become(real.overRow());
            tried.becomePart(copied, 0, cut);
            tried.appendPart(copied, cut, copied.many());
            return tried.isSameAs(copied) && holdsForthAndBack(cut) && holdsBackAndForth(cut)
                    && holdsPutAndTake(real.overRow(), cut);
        }

        private boolean holdsForthAndBack(int cut) {
            walk.begin(copied, cut);
            int item = walk.tellForth();
            return item == NONE || (walk.tellBack() == item && walk.cut() == cut);
        }

        private boolean holdsBackAndForth(int cut) {
            walk.begin(copied, cut);
            int item = walk.tellBack();
            return item == NONE || (walk.tellForth() == item && walk.cut() == cut);
        }

        private boolean holdsPutAndTake(Row original, int cut) {
            walk.begin(copied, cut);
            walk.putIn(TRIED_ITEM);
            int item = walk.tellBack();
            walk.takeOut();
            return item == TRIED_ITEM && copied.isSameAs(original);
        }

        boolean holdsForRow(Row row) {
            return holdsRoundTwice(row) && holdsSiftTwice(row) && holdsSiftEitherWay(row);
        }

        private boolean holdsRoundTwice(Row row) {
            copied.become(row);
            copied.turn();
            copied.turn();
            return copied.isSameAs(row);
        }

        private boolean holdsSiftTwice(Row row) {
            copied.become(row);
            copied.siftOut(3, 1);
            return copied.siftOut(3, 1) == 0;
        }

        private boolean holdsSiftEitherWay(Row row) {
            copied.become(row);
            copied.siftOut(2, 0);
            copied.siftOut(3, 1);
            tried.become(row);
            tried.siftOut(3, 1);
            tried.siftOut(2, 0);
            return copied.isSameAs(tried);
        }

        boolean holdsForTwo(Row first, Row second) {
            return holdsMerged(first, second) && holdsWeaved(first, second) && holdsPaired(first, second)
                    && first.isSameAs(second) == (first.standsIn(second) && second.standsIn(first));
        }

        private boolean holdsMerged(Row first, Row second) {
            copied.becomeMerged(first, second);
            boolean mustRise = first.rises() && second.rises();
            return copiedHoldsBoth(first, second) && (!mustRise || copied.rises());
        }

        private boolean holdsWeaved(Row first, Row second) {
            copied.becomeWeaved(first, second);
            return copiedHoldsBoth(first, second);
        }

        private boolean copiedHoldsBoth(Row first, Row second) {
            return copied.many() == first.many() + second.many() && first.standsIn(copied) && second.standsIn(copied);
        }

        private boolean holdsPaired(Row first, Row second) {
            copied.becomePaired(first, second);
            tried.becomePaired(second, first);
            return copied.isSameAs(tried);
        }
    }
}
