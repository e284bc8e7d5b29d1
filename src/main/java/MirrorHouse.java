import java.util.Arrays;

/** Houses of three-cornered rooms with sides of mirror, glass or nothing: see ../shared/DOC.md. */
public final class MirrorHouse {
    public static final int UNKNOWN = -1, OUTSIDE = -2, STATE = -3, FULL = -4, NONE = -9;
    public static final long LOST = Long.MIN_VALUE;

    private static final int NO_FAULT = 0, NULL = 1, CAST = 2, INDEX = 3, SIZE = 4;
    private static final int MIRROR = 0, GLASS = 1, OPEN = 2;
    private static final int AT_POST = 0, WENT_OUT = 1, NOT_YET = 2;
    private static final int BLIND = 0, SEER = 1, WARY = 2;
    private static final int WAYS = 3, BORDERS = 3, SORTS = 3, KINDS = 3;
    private static final int MOST_WIDE = 4, MOST_HIGH = 3, MOST_ROOMS = 24, MOST_SIDES = 43;
    private static final int HEAD_OF_TEXT = 5;
    private static final int MOST_TURN = 60, MOST_CROSSINGS = 200, MOST_REACH = 24;
    private static final int PHOTO_ROW = 5, MOST_PHOTO = 30, PHOTO_CROSSINGS = 60;
    private static final int MOST_TICKS = 200, MOST_FAR = 30, MOST_TOLD = 8, MOST_UNLIKE = 10;
    private static final int MOST_CELLS = 60;

    private final Sheet[] sheets = new Sheet[4];
    private final House[] houses = new House[3];
    private final Report[] reports = new Report[12];
    private final Walker[] walkers = new Walker[8];
    private final int[] photo = new int[MOST_PHOTO];
    private final Sight sight = new Sight();
    private final Change plan = new Change();
    private int houseCount, reportCount, walkerCount, photoRows;
    private int traced, lastFault;

    public MirrorHouse() {
        for (int k = 0; k < sheets.length; k++) sheets[k] = new Sheet();
    }

    // ---- what may be refused, in words

    private House houseAt(int h) {
        return h >= 0 && h < houseCount && h < houses.length ? houses[h] : null;
    }

    private Walker walkerAt(int w) {
        return w >= 0 && w < walkerCount && w < walkers.length ? walkers[w] : null;
    }

    private Sheet sheetAt(int k) {
        return k >= 0 && k < sheets.length ? sheets[k] : null;
    }

    private static boolean within(int v, int least, int most) {
        return v >= least && v <= most;
    }

    private static boolean isWay(int way) {
        return within(way, 0, WAYS - 1);
    }

    private static boolean isSort(int sort) {
        return within(sort, 0, SORTS - 1);
    }

    private static boolean isTurn(int p, int q) {
        return within(p, -MOST_TURN, MOST_TURN) && within(q, -MOST_TURN, MOST_TURN) && (p != 0 || q != 0);
    }

    private int faulted(int fault) {
        lastFault = fault;
        return -10 - fault;
    }

    private long lostBy(int fault) {
        lastFault = fault;
        return LOST;
    }

    // ---- 1 houses

    public int house(int sheet, int sort, int i, int n) {
        lastFault = NO_FAULT;
        Sheet text = sheetAt(sheet);
        if (text == null) return UNKNOWN;
        if (!isSort(sort)) return OUTSIDE;
        int fault = text.faultOfRow(sort, i, n);
        if (fault != NO_FAULT) return faulted(fault);
        int bad = firstFaultOf(text, i, n);
        if (bad != NONE) return -100 - bad;
        if (houseCount >= houses.length) return FULL;
        houses[houseCount] = builtBy(text, i);
        houseCount++;
        return houseCount - 1;
    }

    /** The place of the first code with which no text goes on; NONE, if it is a text. */
    private static int firstFaultOf(Sheet text, int i, int n) {
        for (int at = 0; at < n; at++) {
            if (!goesOn(text, i, at)) return at;
        }
        int whole = n < HEAD_OF_TEXT ? HEAD_OF_TEXT : HEAD_OF_TEXT + lettersOf(text, i);
        return n < whole ? n : NONE;
    }

    /** Whether a text goes on with the code at a place, the codes ahead of it being as they must. */
    private static boolean goesOn(Sheet text, int i, int at) {
        int code = text.cells[i + at];
        switch (at) {
            case 0: return code == 'w';
            case 1: return within(code, '1', '0' + MOST_WIDE);
            case 2: return code == 'h';
            case 3: return within(code, '1', '0' + MOST_HIGH);
            case 4: return code == ';';
            default: return at < HEAD_OF_TEXT + lettersOf(text, i) && kindOf(code) != NONE;
        }
    }

    private static int lettersOf(Sheet text, int i) {
        return sidesOf(text.cells[i + 1] - '0', text.cells[i + 3] - '0');
    }

    private static int sidesOf(int w, int h) {
        return 3 * w * h + w + h;
    }

    private static int kindOf(int code) {
        switch (code) {
            case 'm': return MIRROR;
            case 'g': return GLASS;
            case 'o': return OPEN;
            default: return NONE;
        }
    }

    private static House builtBy(Sheet text, int i) {
        House house = new House(text.cells[i + 1] - '0', text.cells[i + 3] - '0');
        for (int k = 0; k < house.sides; k++) {
            house.panes[k] = kindOf(text.cells[i + HEAD_OF_TEXT + k]);
        }
        return house;
    }

    public int ofHouse(int h, int what) {
        House house = houseAt(h);
        if (house == null) return UNKNOWN;
        switch (what) {
            case 0: return house.w;
            case 1: return house.h;
            case 2: return house.rooms;
            case 3: return house.sides;
            case 4: return house.panesOf(MIRROR);
            case 5: return house.panesOf(GLASS);
            case 6: return house.panesOf(OPEN);
            case 7: return house.smears();
            default: return OUTSIDE;
        }
    }

    public int ofSide(int h, int k, int what) {
        House house = houseAt(h);
        if (house == null || !house.hasSide(k)) return UNKNOWN;
        switch (what) {
            case 0: return house.panes[k];
            case 1: return house.wayOf[k];
            case 2: return house.evenBy[k];
            case 3: return house.oddBy[k];
            case 4: return house.smeared[k];
            default: return OUTSIDE;
        }
    }

    public int side(int h, int room, int way) {
        House house = houseAt(h);
        if (house == null || !house.hasRoom(room)) return UNKNOWN;
        return isWay(way) ? house.sideOf(room, way) : OUTSIDE;
    }

    public int pane(int h, int k, int v) {
        House house = houseAt(h);
        if (house == null || !house.hasSide(k)) return UNKNOWN;
        return within(v, MIRROR, OPEN) ? house.become(k, v) : OUTSIDE;
    }

    // ---- 2 sight

    public int seen(int h, int room, int p, int q, int n, int what) {
        House house = houseAt(h);
        if (house == null || !house.hasRoom(room)) return UNKNOWN;
        if (!isTurn(p, q) || !within(n, 1, MOST_CROSSINGS) || !within(what, 0, 3)) return OUTSIDE;
        sight.look(house, room, p, q, n);
        switch (what) {
            case 0: return sight.ends;
            case 1: return sight.crossings;
            case 2: return sight.mirrors;
            default: return sight.room;
        }
    }

    public int met(int h, int room, int p, int q, int k) {
        House house = houseAt(h);
        if (house == null || !house.hasRoom(room)) return UNKNOWN;
        if (!isTurn(p, q) || k < 0) return OUTSIDE;
        if (k >= MOST_CROSSINGS) return NONE;
        sight.look(house, room, p, q, k + 1);
        return sight.crossings == k + 1 ? sight.side : NONE;
    }

    public int image(int h, int room, int p, int q) {
        House house = houseAt(h);
        if (house == null || !house.hasRoom(room)) return UNKNOWN;
        return isTurn(p, q) ? sight.imageBy(house, room, p, q) : OUTSIDE;
    }

    public int images(int h, int room, int r, int g, int what) {
        House house = houseAt(h);
        if (house == null || !house.hasRoom(room) || !house.hasRoom(r)) return UNKNOWN;
        if (!within(g, 1, MOST_REACH) || !within(what, 0, 2)) return OUTSIDE;
        sight.seek(house, room, r, g);
        switch (what) {
            case 0: return sight.found;
            case 1: return sight.found == 0 ? NONE : sight.nearestP;
            default: return sight.found == 0 ? NONE : sight.nearestQ;
        }
    }

    public int report(int h, int room, int p, int q, boolean saw) {
        House house = houseAt(h);
        if (house == null || !house.hasRoom(room)) return UNKNOWN;
        if (!isTurn(p, q)) return OUTSIDE;
        if (reportCount >= reports.length) return FULL;
        reports[reportCount] = new Report(h, room, p, q, saw);
        reportCount++;
        return reportCount - 1;
    }

    public int spots(int h) {
        House house = houseAt(h);
        if (house == null) return UNKNOWN;
        int set = house.allRooms();
        for (int k = 0; k < reportCount && k < reports.length; k++) {
            Report report = reports[k];
            if (report != null && report.houseNumber == h) set &= fits(house, report);
        }
        return set;
    }

    /** The rooms that fit one report, by the panes as they are now. */
    private int fits(House house, Report report) {
        int shown = sight.imageBy(house, report.room, report.p, report.q);
        int set = shown == NONE ? 0 : 1 << shown;
        return report.saw ? set : ~set;
    }

    public int photograph(int sheet, int sort, int i, int n) {
        lastFault = NO_FAULT;
        Sheet row = sheetAt(sheet);
        if (row == null) return UNKNOWN;
        if (!isSort(sort)) return OUTSIDE;
        int fault = row.faultOfRow(sort, i, n);
        if (fault != NO_FAULT) return faulted(fault);
        if (!within(n, PHOTO_ROW, MOST_PHOTO) || n % PHOTO_ROW != 0) return OUTSIDE;
        for (int k = 0; k < n; k += PHOTO_ROW) {
            if (!isTurn(row.cells[i + k], row.cells[i + k + 1])) return OUTSIDE;
        }
        System.arraycopy(row.cells, i, photo, 0, n);
        photoRows = n / PHOTO_ROW;
        return photoRows;
    }

    public int taken(int h) {
        House house = houseAt(h);
        if (house == null) return UNKNOWN;
        if (photoRows == 0) return STATE;
        int set = 0;
        for (int room = 0; room < house.rooms; room++) {
            if (showsPhotoFrom(house, room)) set |= 1 << room;
        }
        return set;
    }

    private boolean showsPhotoFrom(House house, int room) {
        for (int k = 0; k < photoRows * PHOTO_ROW && k + PHOTO_ROW <= photo.length; k += PHOTO_ROW) {
            sight.look(house, room, photo[k], photo[k + 1], PHOTO_CROSSINGS);
            boolean so = sight.ends == photo[k + 2] && sight.crossings == photo[k + 3] && sight.mirrors == photo[k + 4];
            if (!so) return false;
        }
        return true;
    }

    // ---- 3 walkers

    public int walker(int kind, int h, int room, int way) {
        House house = houseAt(h);
        if (house == null || !house.hasRoom(room)) return UNKNOWN;
        if (!within(kind, 0, KINDS - 1) || !isWay(way)) return OUTSIDE;
        if (walkerCount >= walkers.length) return FULL;
        walkers[walkerCount] = new Walker(kind, h, room, way);
        walkerCount++;
        return walkerCount - 1;
    }

    public int ticks(int h, int n) {
        House house = houseAt(h);
        if (house == null) return UNKNOWN;
        if (!within(n, 0, MOST_TICKS)) return OUTSIDE;
        int inside = insideOf(h);
        for (int tick = 0; tick < n && inside > 0; tick++) {
            tickAll(house, h);
            inside = insideOf(h);
        }
        return inside;
    }

    private void tickAll(House house, int h) {
        for (int w = 0; w < walkerCount && w < walkers.length; w++) {
            Walker one = walkers[w];
            if (one != null && one.houseNumber == h && !one.isOut()) one.goOn(house);
        }
    }

    private int insideOf(int h) {
        int inside = 0;
        for (int w = 0; w < walkerCount && w < walkers.length; w++) {
            Walker one = walkers[w];
            if (one != null && one.houseNumber == h && !one.isOut()) inside++;
        }
        return inside;
    }

    public int ofWalker(int w, int what) {
        Walker one = walkerAt(w);
        if (one == null) return UNKNOWN;
        switch (what) {
            case 0: return one.kind;
            case 1: return one.houseNumber;
            case 2: return one.room;
            case 3: return one.came;
            case 4: return one.went;
            case 5: return one.ran;
            case 6: return one.isOut() ? one.lived : NONE;
            default: return OUTSIDE;
        }
    }

    // ---- 4 ways out

    public int shut(int h) {
        House house = houseAt(h);
        return house == null ? UNKNOWN : house.firstShut();
    }

    public int far(int h, int room) {
        House house = houseAt(h);
        return house == null || !house.hasRoom(room) ? UNKNOWN : house.howFar(room);
    }

    public int opened(int h, int d, int k) {
        House house = houseAt(h);
        if (house == null || !within(k, -1, 1)) return UNKNOWN;
        if (!within(d, 1, MOST_FAR)) return OUTSIDE;
        int needed = house.fewestToOpen(d);
        if (k == -1) return needed;
        return k == 0 ? house.firstToOpen : house.secondToOpen;
    }

    public int keeps(int h, int room, int way, int sheet, int sort, int i, int n, int what) {
        lastFault = NO_FAULT;
        Sheet told = sheetAt(sheet);
        House house = houseAt(h);
        if (told == null || house == null || !house.hasRoom(room)) return UNKNOWN;
        if (!isSort(sort) || !isWay(way) || !within(what, 0, 1)) return OUTSIDE;
        int fault = told.faultOfRow(sort, i, n);
        if (fault != NO_FAULT) return faulted(fault);
        if (!within(n, 1, MOST_TOLD)) return OUTSIDE;
        if (!areSides(house, told, i, n)) return UNKNOWN;
        if (hasLike(told, i, n)) return OUTSIDE;
        house.keepLongest(told, i, n, room, way);
        return what == 0 ? house.keptTicks : house.keptBy;
    }

    private static boolean areSides(House house, Sheet told, int i, int n) {
        for (int k = i; k < i + n; k++) {
            if (!house.hasSide(told.cells[k])) return false;
        }
        return true;
    }

    private static boolean hasLike(Sheet told, int i, int n) {
        for (int k = i; k < i + n; k++) {
            for (int m = k + 1; m < i + n; m++) {
                if (told.cells[k] == told.cells[m]) return true;
            }
        }
        return false;
    }

    public long changed(int h, int other) {
        House from = houseAt(h);
        House to = houseAt(other);
        if (from == null || to == null || h == other) return LOST;
        return plan.compare(from, to) ? plan.countRows(from, to) : LOST;
    }

    public int change(int h, int other, int k) {
        House from = houseAt(h);
        House to = houseAt(other);
        if (from == null || to == null || !within(k, 0, MOST_UNLIKE - 1)) return UNKNOWN;
        if (h == other) return OUTSIDE;
        if (!plan.compare(from, to)) return STATE;
        return plan.countRows(from, to) == 0 ? NONE : plan.ofFirstRow(k);
    }

    // ---- 5 sheets, parts

    public int sheet(int k, int sort, int n) {
        lastFault = NO_FAULT;
        Sheet one = sheetAt(k);
        if (one == null) return UNKNOWN;
        if (!isSort(sort) || n > MOST_CELLS) return OUTSIDE;
        if (n < 0) return faulted(SIZE);
        one.renew(sort, n);
        return 1;
    }

    public int lose(int k) {
        Sheet one = sheetAt(k);
        if (one == null) return UNKNOWN;
        boolean had = !one.isNothing();
        one.renew(NONE, 0);
        return had ? 1 : 0;
    }

    public int put(int k, int i, int v) {
        lastFault = NO_FAULT;
        Sheet one = sheetAt(k);
        if (one == null) return UNKNOWN;
        if (one.isNothing()) return faulted(NULL);
        if (!within(i, 0, one.length - 1)) return faulted(INDEX);
        one.cells[i] = one.cut(v);
        return 1;
    }

    public long cell(int k, int i, int sort) {
        lastFault = NO_FAULT;
        Sheet one = sheetAt(k);
        if (one == null || !isSort(sort)) return LOST;
        if (!one.canBe(sort)) return lostBy(CAST);
        if (one.isNothing()) return lostBy(NULL);
        if (!within(i, 0, one.length - 1)) return lostBy(INDEX);
        return one.cells[i];
    }

    public int copy(int k, int i, int other, int j, int n) {
        lastFault = NO_FAULT;
        Sheet from = sheetAt(k);
        Sheet to = sheetAt(other);
        if (from == null || to == null) return UNKNOWN;
        if (from.isNothing() || to.isNothing()) return faulted(NULL);
        if (from.sort != to.sort) return faulted(CAST);
        if (n < 0 || !from.hasCells(i, n) || !to.hasCells(j, n)) return faulted(INDEX);
        System.arraycopy(from.cells, i, to.cells, j, n);
        return n;
    }

    public int tell(int w) {
        Walker one = walkerAt(w);
        if (one == null) return UNKNOWN;
        switch (one.kind) {
            case WARY: return waryTells(one);
            case SEER: return seerTells(one);
            default: return blindTells(one);
        }
    }

    private int blindTells(Walker one) {
        leave(1);
        return one.went;
    }

    private int seerTells(Walker one) {
        leave(2);
        return blindTells(one) + 100;
    }

    private int waryTells(Walker one) {
        leave(3);
        return seerTells(one) + blindTells(one);
    }

    private void leave(int body) {
        traced = 31 * traced + body;
    }

    public int greet(int w) {
        Walker one = walkerAt(w);
        if (one == null) return UNKNOWN;
        if (one.kind == WARY) {
            leave(5);
            return 70;
        }
        leave(4);
        return w;
    }

    public int as(int w, int kind) {
        lastFault = NO_FAULT;
        Walker one = walkerAt(w);
        if (one == null) return UNKNOWN;
        if (!within(kind, 0, KINDS - 1)) return OUTSIDE;
        return one.kind >= kind ? 1 : faulted(CAST);
    }

    public int trace() {
        return traced;
    }

    public int fault() {
        return lastFault;
    }

    public int many(int what) {
        switch (what) {
            case 0: return houseCount;
            case 1: return reportCount;
            case 2: return photoRows;
            case 3: return walkerCount;
            case 4: return outs();
            default: return OUTSIDE;
        }
    }

    private int outs() {
        int count = 0;
        for (int w = 0; w < walkerCount && w < walkers.length; w++) {
            Walker one = walkers[w];
            if (one != null && one.isOut()) count++;
        }
        return count;
    }

    /** A row of numbers of one sort, or nothing. */
    private static final class Sheet {
        final int[] cells = new int[MOST_CELLS];
        int sort = NONE;
        int length = 0;

        void renew(int newSort, int n) {
            sort = newSort;
            length = n;
            Arrays.fill(cells, 0);
        }

        boolean isNothing() {
            return sort == NONE;
        }

        /** Nothing can be taken as a row of any sort, as null can be cast to any class. */
        boolean canBe(int other) {
            return isNothing() || sort == other;
        }

        boolean hasCells(int i, int n) {
            return i >= 0 && i <= length && n <= length - i;
        }

        int cut(int v) {
            if (sort == 0) return (byte) v;
            return sort == 1 ? (short) v : v;
        }

        /** The fault that is come to first, as n cells from i on are taken as a row of a sort. */
        int faultOfRow(int other, int i, int n) {
            if (!canBe(other)) return CAST;
            if (isNothing()) return NULL;
            if (n < 0) return SIZE;
            return hasCells(i, n) ? NO_FAULT : INDEX;
        }
    }

    /** A house: which side is where, the panes in them, and the ways out. */
    private static final class House {
        final int w, h, rooms, sides;
        final int[] panes = new int[MOST_SIDES];
        final int[] smeared = new int[MOST_SIDES];
        final int[] wayOf = new int[MOST_SIDES];
        final int[] evenBy = new int[MOST_SIDES];
        final int[] oddBy = new int[MOST_SIDES];
        int firstToOpen = NONE, secondToOpen = NONE;
        int keptTicks = NONE, keptBy = NONE;
        private final int[] sidesBy = new int[MOST_ROOMS * WAYS];
        private final int[] trial = new int[MOST_SIDES];
        // of each way: the even rooms that are open to the odd one behind; at BORDERS: the rooms open to outside
        private final int[] opens = new int[WAYS + 1];
        private final int[] opensNow = new int[WAYS + 1];
        // of each way: how far behind an even room, by numbers, the odd one comes
        private final int[] toOdd = new int[WAYS];

        House(int w, int h) {
            this.w = w;
            this.h = h;
            rooms = 2 * w * h;
            sides = sidesOf(w, h);
            toOdd[0] = 1 - 2 * w;
            toOdd[1] = -1;
            toOdd[2] = 1;
            for (int y = 0; y < h; y++) {
                for (int x = 0; x < w; x++) placeSides(x, y);
            }
            for (int y = 0; y < h; y++) place(3 * w * h + y, 1, NONE, second(w - 1, y));
            for (int x = 0; x < w; x++) place(3 * w * h + h + x, 0, NONE, second(x, h - 1));
        }

        private int second(int x, int y) {
            return 2 * (w * y + x) + 1;
        }

        private void placeSides(int x, int y) {
            int c = w * y + x;
            place(3 * c, 2, 2 * c, 2 * c + 1);
            place(3 * c + 1, 1, 2 * c, x == 0 ? NONE : second(x - 1, y));
            place(3 * c + 2, 0, 2 * c, y == 0 ? NONE : second(x, y - 1));
        }

        private void place(int side, int way, int even, int odd) {
            wayOf[side] = way;
            evenBy[side] = even;
            oddBy[side] = odd;
            if (even != NONE) sidesBy[WAYS * even + way] = side;
            if (odd != NONE) sidesBy[WAYS * odd + way] = side;
        }

        boolean hasRoom(int room) {
            return within(room, 0, rooms - 1);
        }

        boolean hasSide(int k) {
            return within(k, 0, sides - 1);
        }

        int allRooms() {
            return (1 << rooms) - 1;
        }

        int sideOf(int room, int way) {
            return sidesBy[WAYS * room + way];
        }

        /** The room behind the side of a room; NONE, behind a border. */
        int behind(int room, int way) {
            int side = sideOf(room, way);
            return room % 2 == 0 ? oddBy[side] : evenBy[side];
        }

        int panesOf(int kind) {
            int count = 0;
            for (int k = 0; k < sides; k++) {
                if (panes[k] == kind) count++;
            }
            return count;
        }

        int smears() {
            int count = 0;
            for (int k = 0; k < sides; k++) count += smeared[k];
            return count;
        }

        int become(int k, int v) {
            int was = panes[k];
            panes[k] = v;
            if (was != v) smeared[k] = 0;
            return was;
        }

        /** Takes note of the ways that such panes leave open. */
        private void openBy(int[] by) {
            Arrays.fill(opens, 0);
            for (int k = 0; k < sides; k++) {
                if (by[k] == OPEN) openAlso(k);
            }
        }

        private void openAlso(int k) {
            if (evenBy[k] == NONE) opens[BORDERS] |= 1 << oddBy[k];
            else if (oddBy[k] == NONE) opens[BORDERS] |= 1 << evenBy[k];
            else opens[wayOf[k]] |= 1 << evenBy[k];
        }

        /** A set of rooms, and all those that open to one of them. */
        private int widened(int set) {
            int wide = set;
            for (int way = 0; way < WAYS; way++) {
                int evens = opens[way];
                int odds = moved(evens, toOdd[way]);
                wide |= moved(set & evens, toOdd[way]) | moved(set & odds, -toOdd[way]);
            }
            return wide;
        }

        private static int moved(int set, int by) {
            return by >= 0 ? set << by : set >>> -by;
        }

        /** The rooms from which one is out by at most d of the ways noted. */
        private int roomsWithin(int d) {
            int set = opens[BORDERS];
            for (int k = 1; k < d; k++) {
                int wide = widened(set);
                if (wide == set) return set;
                set = wide;
            }
            return set;
        }

        int howFar(int room) {
            openBy(panes);
            for (int d = 1; d <= rooms; d++) {
                if ((roomsWithin(d) >> room & 1) == 1) return d;
            }
            return NONE;
        }

        /** The first room from which one cannot come out; NONE, if the house is fair. */
        int firstShut() {
            openBy(panes);
            int out = roomsWithin(rooms);
            for (int room = 0; room < rooms; room++) {
                if ((out >> room & 1) == 0) return room;
            }
            return NONE;
        }

        private boolean isTrialFair() {
            openBy(trial);
            return roomsWithin(rooms) == allRooms();
        }

        /** How many sides need be open for all to be near; which, in firstToOpen, secondToOpen, else NONE. */
        int fewestToOpen(int d) {
            openBy(panes);
            System.arraycopy(opens, 0, opensNow, 0, opens.length);
            firstToOpen = NONE;
            secondToOpen = NONE;
            if (roomsWithin(d) == allRooms()) return 0;
            for (int a = 0; a < sides; a++) {
                if (isNearWith(a, a, d)) {
                    firstToOpen = a;
                    return 1;
                }
            }
            return findTwo(d) ? 2 : NONE;
        }

        private boolean findTwo(int d) {
            for (int a = 0; a < sides; a++) {
                for (int b = a + 1; b < sides; b++) {
                    if (isNearWith(a, b, d)) {
                        firstToOpen = a;
                        secondToOpen = b;
                        return true;
                    }
                }
            }
            return false;
        }

        private boolean isNearWith(int a, int b, int d) {
            System.arraycopy(opensNow, 0, opens, 0, opens.length);
            openAlso(a);
            openAlso(b);
            return roomsWithin(d) == allRooms();
        }

        /** The setting of n sides told that keeps a blind one in for longest: in keptTicks, keptBy. */
        void keepLongest(Sheet told, int i, int n, int room, int came) {
            keptTicks = NONE;
            keptBy = NONE;
            System.arraycopy(panes, 0, trial, 0, sides);
            for (int setting = 0; setting < 1 << n; setting++) {
                for (int k = 0; k < n; k++) trial[told.cells[i + k]] = (setting >> k & 1) == 1 ? OPEN : GLASS;
                int ticks = isTrialFair() ? ticksOfBlind(room, came) : NONE;
                if (ticks > keptTicks) {
                    keptTicks = ticks;
                    keptBy = setting;
                }
            }
        }

        private int ticksOfBlind(int room, int came) {
            int at = room;
            int by = came;
            for (int tick = 1; tick <= MOST_TICKS; tick++) {
                by = firstOpen(trial, at, by);
                if (by == NONE) return NONE;
                at = behind(at, by);
                if (at == NONE) return tick;
            }
            return NONE;
        }

        /** The way of the first open side of a room, in the order of the hand; NONE. */
        int firstOpen(int[] by, int room, int came) {
            for (int k = 0; k < WAYS; k++) {
                int way = handWay(room, came, k);
                if (by[sideOf(room, way)] == OPEN) return way;
            }
            return NONE;
        }

        /** The k-th way that is looked at by one in a room, that came by a way. */
        static int handWay(int room, int came, int k) {
            return (room % 2 == 0 ? came + 1 + k : came + 2 - k) % WAYS;
        }

        boolean isFairWith(House to, int[] unlike, int n, int set) {
            System.arraycopy(panes, 0, trial, 0, sides);
            for (int k = 0; k < n; k++) {
                if ((set >> k & 1) == 1) trial[unlike[k]] = to.panes[unlike[k]];
            }
            return isTrialFair();
        }
    }

    /** A line of sight. The plane stays as it is; each room is laid, perhaps folded, where the line is. */
    private static final class Sight {
        int ends, crossings, mirrors, room, side;
        int found, nearestP, nearestQ;
        // of each way of the plane: thirds to its next line, thirds that a turn goes, the room's way that lies there
        private final int[] ahead = new int[WAYS];
        private final int[] pace = new int[WAYS];
        private final int[] folded = new int[WAYS];

        void look(House house, int from, int p, int q, int n) {
            setOut(from, p, q);
            for (int k = 0; k < n && ends == NOT_YET; k++) goOn(house);
        }

        private void setOut(int from, int p, int q) {
            ends = NOT_YET;
            crossings = 0;
            mirrors = 0;
            room = from;
            side = NONE;
            int thirds = thirdsIn(from);
            aim(0, thirds, q);
            aim(1, thirds, p);
            aim(2, 2 * thirds, p + q);
        }

        /** The middle of a first room is one third of u and of v beyond whole ones, that of a second two. */
        private static int thirdsIn(int room) {
            return room % 2 == 0 ? 1 : 2;
        }

        private void aim(int way, int thirds, int slope) {
            int beyond = thirds % 3;
            ahead[way] = slope > 0 ? 3 - beyond : beyond;
            pace[way] = Math.abs(slope);
            folded[way] = way;
        }

        private void goOn(House house) {
            int way = nextWay();
            if (way == NONE) {
                ends = AT_POST;
                return;
            }
            ahead[way] += 3;
            crossings++;
            side = house.sideOf(room, folded[way]);
            if (house.panes[side] == MIRROR) {
                mirrors++;
                foldOver(way);
                return;
            }
            int behind = house.behind(room, folded[way]);
            if (behind == NONE) ends = WENT_OUT;
            else room = behind;
        }

        /** The way of the line that is crossed next; NONE, if lines meet there in a post. */
        private int nextWay() {
            int next = NONE;
            boolean meet = false;
            for (int way = 0; way < WAYS; way++) {
                if (pace[way] == 0) continue;
                int later = next == NONE ? -1 : ahead[way] * pace[next] - ahead[next] * pace[way];
                if (later < 0) next = way;
                meet = later == 0 || meet && later > 0;
            }
            return meet ? NONE : next;
        }

        /** Folding over at a line of one way lays what lay along each other way along the third. */
        private void foldOver(int way) {
            int a = (way + 1) % WAYS;
            int b = (way + 2) % WAYS;
            int was = folded[a];
            folded[a] = folded[b];
            folded[b] = was;
        }

        /** The room whose middle is at the end of the turn; NONE. */
        int imageBy(House house, int from, int p, int q) {
            int u = Math.floorMod(thirdsIn(from) + p, 3);
            int v = Math.floorMod(thirdsIn(from) + q, 3);
            if (u == 0 || u != v) return NONE;
            setOut(from, p, q);
            for (int k = 0; k < MOST_CROSSINGS && ends == NOT_YET && crossesMore(); k++) goOn(house);
            return ends == NOT_YET ? room : NONE;
        }

        /** Whether there is a line between here and the end of the turn. */
        private boolean crossesMore() {
            for (int way = 0; way < WAYS; way++) {
                if (ahead[way] < pace[way]) return true;
            }
            return false;
        }

        /** All turns within g by which a room is the image: how many in found, and the nearest. */
        void seek(House house, int from, int sought, int g) {
            found = 0;
            int nearest = 0;
            for (int p = -g; p <= g; p++) {
                for (int q = -g; q <= g; q++) {
                    if (p == 0 && q == 0 || imageBy(house, from, p, q) != sought) continue;
                    int off = p * p + p * q + q * q;
                    if (found == 0 || off < nearest) {
                        nearest = off;
                        nearestP = p;
                        nearestQ = q;
                    }
                    found++;
                }
            }
        }
    }

    private static final class Report {
        final int houseNumber, room, p, q;
        final boolean saw;

        Report(int houseNumber, int room, int p, int q, boolean saw) {
            this.houseNumber = houseNumber;
            this.room = room;
            this.p = p;
            this.q = q;
            this.saw = saw;
        }
    }

    private static final class Walker {
        final int kind, houseNumber;
        int room, came, went, ran, lived;
        // of each side: how often it went by it or ran into it
        private final int[] times = new int[MOST_SIDES];

        Walker(int kind, int houseNumber, int room, int came) {
            this.kind = kind;
            this.houseNumber = houseNumber;
            this.room = room;
            this.came = came;
        }

        boolean isOut() {
            return room == NONE;
        }

        void goOn(House house) {
            lived++;
            int way = kind == BLIND ? house.firstOpen(house.panes, room, came) : firstClear(house);
            if (way == NONE) return;
            int side = house.sideOf(room, way);
            times[side]++;
            if (house.panes[side] == GLASS) {
                house.smeared[side] = 1;
                ran++;
                return;
            }
            went++;
            room = house.behind(room, way);
            came = way;
        }

        /** The first side that seems a way; to a wary one, the first of those it tried least. */
        private int firstClear(House house) {
            int best = NONE;
            int least = 0;
            for (int k = 0; k < WAYS; k++) {
                int way = House.handWay(room, came, k);
                int side = house.sideOf(room, way);
                int tried = kind == WARY ? times[side] : 0;
                if (seemsOpen(house, side) && (best == NONE || tried < least)) {
                    best = way;
                    least = tried;
                }
            }
            return best;
        }

        private static boolean seemsOpen(House house, int side) {
            return house.panes[side] == OPEN || house.panes[side] == GLASS && house.smeared[side] == 0;
        }
    }

    /** A house changed into another one: the sides that are not alike, and the rows in which to change them. */
    private static final class Change {
        private final int[] unlike = new int[MOST_UNLIKE];
        private int n;
        // of each set of sides changed so far: how many rows of the others are left
        private final int[] rows = new int[1 << MOST_UNLIKE];

        /** Whether one is as told to be changed into the other; finds what is not alike. */
        boolean compare(House from, House to) {
            n = 0;
            if (from.w != to.w || from.h != to.h) return false;
            for (int k = 0; k < from.sides; k++) {
                if (from.panes[k] == to.panes[k]) continue;
                if (n >= unlike.length) return false;
                unlike[n] = k;
                n++;
            }
            return true;
        }

        int countRows(House from, House to) {
            int all = (1 << n) - 1;
            for (int set = all; set >= 0; set--) {
                int left = set == all ? 1 : rowsBehind(set);
                rows[set] = left > 0 && from.isFairWith(to, unlike, n, set) ? left : 0;
            }
            return rows[0];
        }

        private int rowsBehind(int set) {
            int sum = 0;
            for (int k = 0; k < n; k++) {
                if ((set >> k & 1) == 0) sum += rows[set | 1 << k];
            }
            return sum;
        }

        /** The k-th side of the first row, if there is a row at all; NONE behind its end. */
        int ofFirstRow(int k) {
            int set = 0;
            int last = NONE;
            for (int step = 0; step <= k; step++) {
                if (step >= n) return NONE;
                int next = firstThatGoesOn(set);
                if (next == NONE) return NONE;
                set |= 1 << next;
                last = unlike[next];
            }
            return last;
        }

        private int firstThatGoesOn(int set) {
            for (int k = 0; k < n; k++) {
                if ((set >> k & 1) == 0 && rows[set | 1 << k] > 0) return k;
            }
            return NONE;
        }
    }
}
