/**
 * Arms in one drawer: a shop for mending dolls. The document's numbered promises say what each
 * public method answers.
 */
public final class DrawerOfArms {
    public static final int NONE = -1;

    private static final int SHELVES = 8;
    private static final int MOST_TWOS = 20;
    private static final int MOST_MINUTES = 400;
    private static final int MOST_DAYS = 60;

    // The refusals by their numbers, without the sign.
    private static final int NOBODY = 1;
    private static final int OTHER = 2;
    private static final int NOTHING = 3;
    private static final int BELOW = 4;
    private static final int BEYOND = 5;
    private static final int WRONG = 6;
    private static final int ROOM = 7;

    private final Stock now = new Stock();
    private final Stock imaged = new Stock();
    private final Stock told = new Stock();
    private boolean hasImage = false;
    private final Shelf[] shelves = new Shelf[SHELVES];
    private final int[] refused = new int[ROOM + 1];
    private final Reader reader;
    private final Parting parting = new Parting();
    private final Waiting waiting = new Waiting();
    private final Moves moves;

    public DrawerOfArms() {
        for (int s = 0; s < SHELVES; s++) {
            shelves[s] = new Shelf();
        }
        // the first shelf and arm stand for those that will be read and moved, so that no reference is ever null
        reader = new Reader(told, shelves[0]);
        moves = new Moves(now.arms[0]);
    }

    // ---- shelves ----

    public int row(int s, int sort, int n) {
        if (!isShelf(s)) {
            return refuse(NOBODY);
        }
        if (n < 0) {
            return refuse(BELOW);
        }
        if (!within(sort, Shelf.BYTES, Shelf.LONGS)) {
            return refuse(WRONG);
        }
        if (n > Shelf.MOST) {
            return refuse(ROOM);
        }
        shelves[s].holdRow(sort, n);
        return 1;
    }

    public int set(int s, int i, long v) {
        int bar = barToRow(s);
        if (bar != 0) {
            return refuse(bar);
        }
        if (!shelves[s].hasElement(i)) {
            return refuse(BEYOND);
        }
        shelves[s].put(i, v);
        return 1;
    }

    public int copy(int p, int q, int i, int j, int n) {
        int bar = barToCopy(p, q);
        if (bar != 0) {
            return refuse(bar);
        }
        if (n < 0) {
            return refuse(BELOW);
        }
        if (!shelves[p].hasStretch(i, n) || !shelves[q].hasStretch(j, n)) {
            return refuse(BEYOND);
        }
        System.arraycopy(shelves[p].elements, i, shelves[q].elements, j, n);
        return 1;
    }

    public long element(int s, int i) {
        if (!isShelf(s) || !shelves[s].hasElement(i)) {
            return 0;
        }
        return shelves[s].elements[i];
    }

    public int show(int s, int arm) {
        if (!isShelf(s) || (arm != NONE && !now.isArm(arm))) {
            return refuse(NOBODY);
        }
        if (arm == NONE) {
            shelves[s].holdNothing();
            return 0;
        }
        shelves[s].holdArm(arm);
        return 1;
    }

    public int holds(int s) {
        if (!isShelf(s)) {
            return NONE;
        }
        Shelf shelf = shelves[s];
        return shelf.hasRow() ? 100 + shelf.sort : shelf.arm;
    }

    public int says(int s, int kind) {
        if (!isShelf(s) || !within(kind, Arm.PLAIN, Arm.GLUED)) {
            return refuse(NOBODY);
        }
        if (shelves[s].hasRow()) {
            return refuse(OTHER);
        }
        int number = shelves[s].arm;
        if (!now.isArm(number)) {
            return refuse(NOTHING);
        }
        Arm arm = now.arms[number];
        return arm.isOf(kind) ? arm.saysAs(kind) : refuse(OTHER);
    }

    // ---- arms and dolls ----

    public int arm(int kind, int a, int side, int size, int shade, int wear) {
        if (!within(kind, Arm.PLAIN, Arm.GLUED)) {
            return refuse(NOBODY);
        }
        if (!isFigure(a) || !isSide(side) || !isFigure(size) || !isFigure(shade) || !isFigure(wear)) {
            return refuse(WRONG);
        }
        if (!now.hasRoomForArm()) {
            return refuse(ROOM);
        }
        return now.addArm(kind, a, side, size, shade, wear);
    }

    public int doll(int size, int shade, int wear, int wish, int minutes, int tears, int bears) {
        if (!isFigure(size) || !isFigure(shade) || !isFigure(wear)
                || !within(wish, Doll.AS_IT_WAS, Doll.THAT_IT_HOLDS)
                || !within(minutes, 1, Doll.MOST_MINUTES)
                || !isFigure(tears) || !within(bears, 0, Doll.MOST_BEARS)) {
            return refuse(WRONG);
        }
        if (!now.hasRoomForDoll()) {
            return refuse(ROOM);
        }
        return now.addDoll(size, shade, wear, wish, minutes, tears, bears);
    }

    public int dye(int arm, int what, int v) {
        if (!now.isArm(arm)) {
            return refuse(NOBODY);
        }
        if (!within(what, 0, 1) || !isFigure(v)) {
            return refuse(WRONG);
        }
        Arm dyed = now.arms[arm];
        int was;
        if (what == 0) {
            was = dyed.shade;
            dyed.shade = v;
        } else {
            was = dyed.wear;
            dyed.wear = v;
        }
        return was;
    }

    public int tell(int doll, int what, int v) {
        if (!now.isDoll(doll)) {
            return refuse(NOBODY);
        }
        if (v < 0 || v > Doll.mostOf(what)) {
            return refuse(WRONG);
        }
        return now.dolls[doll].retell(what, v);
    }

    public int armOf(int arm, int what) {
        if (!now.isArm(arm) || !within(what, 0, 8)) {
            return refuse(BEYOND);
        }
        return now.arms[arm].figure(what);
    }

    public int dollOf(int doll, int what) {
        if (!now.isDoll(doll) || !within(what, 0, 8)) {
            return refuse(BEYOND);
        }
        if (what == 8) {
            return now.isHer(doll) ? 1 : 0;
        }
        return now.dolls[doll].figure(what);
    }

    public int on(int doll, int side) {
        int bar = barToSide(doll, side);
        return bar != 0 ? refuseApart(bar) : now.armAt(doll, side);
    }

    public int shop(int s) {
        int bar = barToRow(s);
        if (bar != 0) {
            return refuse(bar);
        }
        told.takeFrom(now);
        int items = reader.readAll(shelves[s]);
        if (items == NONE) {
            return refuse(WRONG);
        }
        now.takeFrom(told);
        return items;
    }

    public int fault() {
        return reader.fault;
    }

    // ---- looks, and what comes of it ----

    public int fits(int arm, int doll, int side) {
        if (!now.isArm(arm) || !now.isDoll(doll)) {
            return refuse(NOBODY);
        }
        if (!isSide(side)) {
            return refuse(WRONG);
        }
        return now.arms[arm].suits(now.dolls[doll], side) ? 1 : 0;
    }

    public int unlike(int arm, int doll) {
        if (!now.isArm(arm) || !now.isDoll(doll)) {
            return refuse(NOBODY);
        }
        return now.arms[arm].farFrom(now.dolls[doll]);
    }

    public int may(int doll, int side) {
        int bar = barToSide(doll, side);
        return bar != 0 ? refuse(bar) : now.armsFor(doll, side);
    }

    public int best(int doll, int side) {
        int bar = barToSide(doll, side);
        return bar != 0 ? refuseApart(bar) : now.leastUnlike(now.armsFor(doll, side), doll);
    }

    public int whole(int what) {
        if (!within(what, 0, 1)) {
            return refuse(BEYOND);
        }
        parting.weigh(now);
        return what == 0 ? parting.filled() : parting.unlikeness();
    }

    public int given(int i) {
        if (i < 0 || i >= 2 * now.dollCount) {
            return refuseApart(BEYOND);
        }
        parting.weigh(now);
        return parting.armForSide(i / 2, i % 2);
    }

    public int cast() {
        parting.weigh(now);
        return parting.castAnew(now);
    }

    public int tea(int arm, int doll) {
        if (!now.isArm(arm) || !now.isDoll(doll)) {
            return refuse(NOBODY);
        }
        return now.arms[arm].minutesInTea(now.dolls[doll]);
    }

    public int comes(int doll, int n) {
        if (!now.isDoll(doll)) {
            return refuse(NOBODY);
        }
        if (!within(n, 0, 99)) {
            return refuse(WRONG);
        }
        return 1000 * n / (now.dolls[doll].days + n + 1);
    }

    public int queue(int i) {
        if (i != NONE && !now.isDoll(i)) {
            return refuse(BEYOND);
        }
        waiting.weigh(now);
        return i == NONE ? waiting.tearsInAll() : waiting.dollAt(now, i);
    }

    public int feast(int time, int what) {
        if (!within(what, 0, 1)) {
            return refuse(BEYOND);
        }
        if (!within(time, 0, MOST_MINUTES)) {
            return refuse(WRONG);
        }
        int dolls = waiting.doneWithin(now, time);
        return what == 0 ? dolls : waiting.tearsOf(now, dolls);
    }

    public int looks(int s, int arm, int what) {
        if (!isShelf(s) || !now.isArm(arm)) {
            return refuse(NOBODY);
        }
        int bar = barToRow(s);
        if (bar != 0) {
            return refuse(bar);
        }
        if (shelves[s].count < now.dollCount || !within(what, 0, 1)) {
            return refuse(BEYOND);
        }
        return looksAllowed(shelves[s], now.arms[arm], what == 0);
    }

    public int dearest(int what) {
        if (!within(what, 0, 1)) {
            return refuseApart(BEYOND);
        }
        if (what == 1) {
            return now.bestSwap();
        }
        parting.weigh(now);
        return parting.mostMissed();
    }

    // ---- told days, and days in truth ----

    public int judge(int s, int n) {
        int bar = barToDay(s, n);
        if (bar != 0) {
            return refuseApart(bar);
        }
        return tellDay(shelves[s], n);
    }

    public int behind(int s, int n, int what) {
        int bar = barToDay(s, n);
        if ((bar == 0 || bar > BEYOND) && !within(what, 0, 2)) {
            bar = BEYOND;
        }
        if (bar == 0 && tellDay(shelves[s], n) != NONE) {
            bar = WRONG;
        }
        if (bar != 0) {
            return refuse(bar);
        }
        if (what == 0) {
            return told.dollsWithBoth();
        }
        return what == 1 ? told.unlikeOfAllOn() : told.dollsHerself();
    }

    public int done(int s, int n) {
        int bar = barToDay(s, n);
        if (bar == 0 && tellDay(shelves[s], n) != NONE) {
            bar = WRONG;
        }
        if (bar != 0) {
            return refuse(bar);
        }
        now.takeFrom(told);
        return now.mended;
    }

    public int mend(int arm, int doll, int side) {
        if (!now.isArm(arm) || !now.isDoll(doll)) {
            return refuse(NOBODY);
        }
        if (!isSide(side) || !now.canCome(arm, doll, side)) {
            return refuse(WRONG);
        }
        now.mendWith(arm, doll, side);
        return now.spent;
    }

    public int off(int arm) {
        if (!now.isArm(arm)) {
            return refuse(NOBODY);
        }
        if (now.arms[arm].isInDrawer()) {
            return refuse(WRONG);
        }
        int was = now.arms[arm].spot;
        now.arms[arm].comeOff();
        return was;
    }

    public int days(int n) {
        if (now.armCount == 0 || now.dollCount == 0) {
            return refuse(BEYOND);
        }
        if (!within(n, 1, MOST_DAYS)) {
            return refuse(WRONG);
        }
        for (int i = 0; i < n; i++) {
            now.passDay();
        }
        return now.mended;
    }

    public int seed(int v) {
        int was = now.seed;
        now.seed = v;
        return was;
    }

    // ---- moves ----

    public int act(int arm, int move, int x) {
        moves.forget();
        if (!now.isArm(arm) || !within(move, Moves.BENDS, Moves.DROPS)) {
            return 0;
        }
        return moves.make(now.arms[arm], arm, move, x);
    }

    public int trace(int i) {
        return moves.bodyAt(i);
    }

    // ---- the image, and how many there are ----

    public int image() {
        imaged.takeFrom(now);
        hasImage = true;
        return now.armCount;
    }

    public int restore() {
        if (!hasImage) {
            return refuse(WRONG);
        }
        now.takeFrom(imaged);
        for (int s = 0; s < SHELVES; s++) {
            if (!now.isArm(shelves[s].arm)) {
                shelves[s].dropArm();
            }
        }
        return now.armCount;
    }

    public int status(int what) {
        if (what > 10 && what - 10 <= ROOM) {
            return refused[what - 10];
        }
        switch (what) {
            case 0: return now.armCount;
            case 1: return now.dollCount;
            case 2: return now.armsInDrawer();
            case 3: return now.dollsWithBoth();
            case 4: return now.mended;
            case 5: return now.spent;
            case 6: return now.today;
            case 7: return now.seed;
            case 8: return moves.ran;
            default: return NONE;
        }
    }

    // ---- what the calls share ----

    private int refuse(int number) {
        if (within(number, NOBODY, ROOM)) {
            refused[number]++;
        }
        return -number;
    }

    /** A refusal of a call that may well answer NONE: ten further down, lest one be taken for the other. */
    private int refuseApart(int number) {
        return refuse(number) - 10;
    }

    private static boolean within(int v, int least, int most) {
        return v >= least && v <= most;
    }

    private static boolean isFigure(int v) {
        return within(v, 0, 9);
    }

    private static boolean isSide(int v) {
        return within(v, 0, 1);
    }

    private static boolean isShelf(int s) {
        return within(s, 0, SHELVES - 1);
    }

    /** Which refusal bars a call from a row in a shelf; 0: none. */
    private int barToRow(int s) {
        if (!isShelf(s)) {
            return NOBODY;
        }
        if (shelves[s].hasArm()) {
            return OTHER;
        }
        return shelves[s].hasRow() ? 0 : NOTHING;
    }

    private int barToCopy(int p, int q) {
        if (!isShelf(p) || !isShelf(q)) {
            return NOBODY;
        }
        Shelf from = shelves[p];
        Shelf to = shelves[q];
        if (from.hasArm() || to.hasArm()) {
            return OTHER;
        }
        if (!from.hasRow() || !to.hasRow()) {
            return NOTHING;
        }
        return from.sort == to.sort ? 0 : OTHER;
    }

    private int barToSide(int doll, int side) {
        if (!now.isDoll(doll)) {
            return NOBODY;
        }
        return isSide(side) ? 0 : WRONG;
    }

    private int barToDay(int s, int n) {
        int bar = barToRow(s);
        if (bar != 0) {
            return bar;
        }
        if (n < 0) {
            return BELOW;
        }
        if (n > shelves[s].count / 2) {
            return BEYOND;
        }
        return n > MOST_TWOS ? WRONG : 0;
    }

    /** Lets the told day come over what there is, in a copy: the first two that can't be, or NONE. */
    private int tellDay(Shelf row, int n) {
        told.takeFrom(now);
        for (int i = 0; i < n; i++) {
            int arm = row.read(2 * i);
            int spot = row.read(2 * i + 1);
            int doll = spot / 10;
            int side = spot % 10;
            if (!told.isArm(arm) || !told.isDoll(doll) || !isSide(side) || !told.canCome(arm, doll, side)) {
                return i;
            }
            told.mendWith(arm, doll, side);
        }
        return NONE;
    }

    private int looksAllowed(Shelf row, Arm arm, boolean ofShade) {
        int allowed = 0;
        for (int v = 0; v <= 9; v++) {
            int shade = ofShade ? v : arm.shade;
            int wear = ofShade ? arm.wear : v;
            boolean all = true;
            for (int d = 0; d < now.dollCount && all; d++) {
                all = arm.farIf(now.dolls[d], shade, wear) == row.read(d);
            }
            if (all) {
                allowed |= 1 << v;
            }
        }
        return allowed;
    }

    /** One place that holds nothing, a row or an arm; its elements are made once and used again. */
    private static final class Shelf {
        static final int MOST = 160;
        static final int BYTES = 0;
        static final int SHORTS = 1;
        static final int INTS = 2;
        static final int LONGS = 3;

        final long[] elements = new long[MOST];
        int sort = NONE;
        int count = 0;
        int arm = NONE;

        void holdNothing() {
            sort = NONE;
            count = 0;
            arm = NONE;
        }

        void holdArm(int number) {
            holdNothing();
            arm = number;
        }

        void holdRow(int ofSort, int n) {
            holdNothing();
            sort = ofSort;
            count = n;
            for (int i = 0; i < MOST; i++) {
                elements[i] = 0;
            }
        }

        void dropArm() {
            arm = NONE;
        }

        boolean hasRow() {
            return sort != NONE;
        }

        boolean hasArm() {
            return arm != NONE;
        }

        boolean hasElement(int i) {
            return i >= 0 && i < count;
        }

        /** Written so that no sum can wrap: n is 0 at least. */
        boolean hasStretch(int i, int n) {
            return i >= 0 && i <= count - n;
        }

        void put(int i, long v) {
            if (!hasElement(i)) {
                return;
            }
            switch (sort) {
                case BYTES: elements[i] = (byte) v; break;
                case SHORTS: elements[i] = (short) v; break;
                case INTS: elements[i] = (int) v; break;
                default: elements[i] = v; break;
            }
        }

        /** An element as all but element() take it: as an int. NONE is no letter, digit or arm. */
        int read(int i) {
            return i >= 0 && i < count ? (int) elements[i] : NONE;
        }
    }

    /** One arm: what it is, how it looks, and where it is. */
    private static final class Arm {
        static final int PLAIN = 0;
        static final int STAINED = 1;
        static final int CAST = 2;
        static final int ROBBED = 3;
        static final int DOUBLED = 4;
        static final int OLD = 5;
        static final int GLUED = 6;
        static final int IN_DRAWER = 99;
        /** By kinds, the kind that each is under: one of a lower number, so that going up has an end. */
        private static final int[] UNDER = {NONE, PLAIN, PLAIN, STAINED, PLAIN, CAST, ROBBED};

        int kind;
        int a;
        int side;
        int size;
        int shade;
        int wear;
        int spot = IN_DRAWER;

        void become(int newKind, int newA, int newSide, int newSize, int newShade, int newWear) {
            kind = newKind;
            a = newA;
            side = newSide;
            size = newSize;
            shade = newShade;
            wear = newWear;
            spot = IN_DRAWER;
        }

        void becomeLike(Arm other) {
            become(other.kind, other.a, other.side, other.size, other.shade, other.wear);
            spot = other.spot;
        }

        boolean isInDrawer() {
            return spot == IN_DRAWER;
        }

        boolean isOn(int doll, int ofSide) {
            return spot == 10 * doll + ofSide;
        }

        void comeOn(int doll, int ofSide) {
            spot = 10 * doll + ofSide;
        }

        void comeOff() {
            spot = IN_DRAWER;
        }

        /** The kind next above one; NONE above the topmost, and for what is no kind. */
        static int above(int kind) {
            return kind > PLAIN && kind <= GLUED ? UNDER[kind] : NONE;
        }

        boolean isOf(int wanted) {
            int k = kind;
            for (int up = 0; up <= GLUED && k != NONE; up++) {
                if (k == wanted) {
                    return true;
                }
                k = above(k);
            }
            return false;
        }

        int saysAs(int taken) {
            switch (taken) {
                case PLAIN: return size;
                case DOUBLED: return side;
                case CAST:
                case OLD: return wearSeen(wear);
                default: return shadeSeen(shade);
            }
        }

        int figure(int what) {
            switch (what) {
                case 0: return kind;
                case 1: return a;
                case 2: return side;
                case 3: return size;
                case 4: return shade;
                case 5: return wear;
                case 6: return shadeSeen(shade);
                case 7: return wearSeen(wear);
                default: return spot;
            }
        }

        /** How its shade would be seen, were it ofShade. */
        int shadeSeen(int ofShade) {
            boolean stained = kind == STAINED || kind == ROBBED || kind == GLUED;
            return stained ? Math.min(9, ofShade + a) : ofShade;
        }

        /** How its wear would be seen, were it ofWear. */
        int wearSeen(int ofWear) {
            switch (kind) {
                case CAST: return 0;
                case OLD: return 9 - a;
                case ROBBED: return Math.min(9, ofWear + 1);
                case GLUED: return Math.min(9, ofWear + 1 + a);
                default: return ofWear;
            }
        }

        boolean suits(Doll doll, int ofSide) {
            int apart = kind == GLUED ? 2 : 1;
            return (kind == DOUBLED || side == ofSide) && Math.abs(size - doll.size) <= apart;
        }

        int farFrom(Doll doll) {
            return farIf(doll, shade, wear);
        }

        /** How unlike a doll it would be, were its shade and wear these. */
        int farIf(Doll doll, int ofShade, int ofWear) {
            int far = 2 * Math.abs(size - doll.size);
            if (doll.wish == Doll.THAT_IT_HOLDS) {
                return far;
            }
            far += Math.abs(shadeSeen(ofShade) - doll.shade);
            int seen = wearSeen(ofWear);
            return far + (doll.wish == Doll.AS_NEW ? seen : Math.abs(seen - doll.wear));
        }

        int minutesInTea(Doll doll) {
            int minutes = 0;
            int least = farFrom(doll);
            for (int t = 1; t <= 9; t++) {
                int far = farIf(doll, Math.min(9, shade + t), wear);
                if (far < least) {
                    least = far;
                    minutes = t;
                }
            }
            return minutes;
        }
    }

    /** One doll; which arms are on her is told by the arms. */
    private static final class Doll {
        static final int AS_IT_WAS = 0;
        static final int AS_NEW = 1;
        static final int THAT_IT_HOLDS = 2;
        static final int MOST_MINUTES = 99;
        static final int MOST_TEARS = 9;
        static final int MOST_BEARS = 40;
        static final int MOST_DAYS = 99;

        int size;
        int shade;
        int wear;
        int wish;
        int minutes;
        int tears;
        int bears;
        int days;

        void become(int newSize, int newShade, int newWear, int newWish, int newMinutes, int newTears, int newBears) {
            size = newSize;
            shade = newShade;
            wear = newWear;
            wish = newWish;
            minutes = newMinutes;
            tears = newTears;
            bears = newBears;
            days = 0;
        }

        void becomeLike(Doll other) {
            become(other.size, other.shade, other.wear, other.wish, other.minutes, other.tears, other.bears);
            days = other.days;
        }

        /** The most that may be told of a what by tell(); below 0 for another what, so that nothing may. */
        static int mostOf(int what) {
            switch (what) {
                case 0: return THAT_IT_HOLDS;
                case 1: return MOST_TEARS;
                case 2: return MOST_BEARS;
                case 3: return MOST_DAYS;
                default: return NONE;
            }
        }

        int retell(int what, int v) {
            int was;
            switch (what) {
                case 0: was = wish; wish = v; break;
                case 1: was = tears; tears = v; break;
                case 2: was = bears; bears = v; break;
                default: was = days; days = v; break;
            }
            return was;
        }

        int figure(int what) {
            switch (what) {
                case 0: return size;
                case 1: return shade;
                case 2: return wear;
                case 3: return wish;
                case 4: return minutes;
                case 5: return tears;
                case 6: return bears;
                default: return days;
            }
        }
    }

    /** All that an image keeps: the arms, the dolls, and what has been done. */
    private static final class Stock {
        static final int MOST_ARMS = 8;
        static final int MOST_DOLLS = 5;

        final Arm[] arms = new Arm[MOST_ARMS];
        final Doll[] dolls = new Doll[MOST_DOLLS];
        int armCount = 0;
        int dollCount = 0;
        int mended = 0;
        int spent = 0;
        int today = 0;
        int seed = 1;

        Stock() {
            for (int i = 0; i < MOST_ARMS; i++) {
                arms[i] = new Arm();
            }
            for (int d = 0; d < MOST_DOLLS; d++) {
                dolls[d] = new Doll();
            }
        }

        void takeFrom(Stock other) {
            for (int i = 0; i < other.armCount; i++) {
                arms[i].becomeLike(other.arms[i]);
            }
            for (int d = 0; d < other.dollCount; d++) {
                dolls[d].becomeLike(other.dolls[d]);
            }
            armCount = other.armCount;
            dollCount = other.dollCount;
            mended = other.mended;
            spent = other.spent;
            today = other.today;
            seed = other.seed;
        }

        boolean isArm(int number) {
            return number >= 0 && number < armCount;
        }

        boolean isDoll(int number) {
            return number >= 0 && number < dollCount;
        }

        boolean hasRoomForArm() {
            return armCount < MOST_ARMS;
        }

        boolean hasRoomForDoll() {
            return dollCount < MOST_DOLLS;
        }

        int addArm(int kind, int a, int side, int size, int shade, int wear) {
            if (!hasRoomForArm()) {
                return NONE;
            }
            arms[armCount].become(kind, a, side, size, shade, wear);
            armCount++;
            return armCount - 1;
        }

        int addDoll(int size, int shade, int wear, int wish, int minutes, int tears, int bears) {
            if (!hasRoomForDoll()) {
                return NONE;
            }
            dolls[dollCount].become(size, shade, wear, wish, minutes, tears, bears);
            dollCount++;
            return dollCount - 1;
        }

        int armAt(int doll, int side) {
            for (int i = 0; i < armCount; i++) {
                if (arms[i].isOn(doll, side)) {
                    return i;
                }
            }
            return NONE;
        }

        /** Whether an arm can come on a side of a doll; the three must be there. */
        boolean canCome(int arm, int doll, int side) {
            return arms[arm].isInDrawer() && arms[arm].suits(dolls[doll], side) && armAt(doll, side) == NONE;
        }

        void mendWith(int arm, int doll, int side) {
            arms[arm].comeOn(doll, side);
            spent += dolls[doll].minutes;
            mended++;
        }

        int armsFor(int doll, int side) {
            int bits = 0;
            for (int i = 0; i < armCount; i++) {
                if (canCome(i, doll, side)) {
                    bits |= 1 << i;
                }
            }
            return bits;
        }

        int leastUnlike(int bits, int doll) {
            int found = NONE;
            int least = 0;
            for (int i = 0; i < armCount; i++) {
                if ((bits >> i & 1) != 0) {
                    int far = arms[i].farFrom(dolls[doll]);
                    if (found == NONE || far < least) {
                        found = i;
                        least = far;
                    }
                }
            }
            return found;
        }

        int armsInDrawer() {
            int count = 0;
            for (int i = 0; i < armCount; i++) {
                if (arms[i].isInDrawer()) {
                    count++;
                }
            }
            return count;
        }

        int dollsWithBoth() {
            int count = 0;
            for (int d = 0; d < dollCount; d++) {
                if (armAt(d, 0) != NONE && armAt(d, 1) != NONE) {
                    count++;
                }
            }
            return count;
        }

        private int unlikeOn(int doll) {
            int sum = 0;
            for (int side = 0; side <= 1; side++) {
                int arm = armAt(doll, side);
                if (arm != NONE) {
                    sum += arms[arm].farFrom(dolls[doll]);
                }
            }
            return sum;
        }

        int unlikeOfAllOn() {
            int sum = 0;
            for (int d = 0; d < dollCount; d++) {
                sum += unlikeOn(d);
            }
            return sum;
        }

        boolean isHer(int doll) {
            return unlikeOn(doll) <= dolls[doll].bears;
        }

        int dollsHerself() {
            int count = 0;
            for (int d = 0; d < dollCount; d++) {
                if (isHer(d)) {
                    count++;
                }
            }
            return count;
        }

        /** The two arms on, on one side, whose change takes most off the unlikeness of all that are on. */
        int bestSwap() {
            int found = NONE;
            int most = 0;
            for (int i = 0; i < armCount; i++) {
                for (int j = i + 1; j < armCount; j++) {
                    int gain = gainOfSwap(arms[i], arms[j]);
                    if (gain > most) {
                        most = gain;
                        found = 10 * i + j;
                    }
                }
            }
            return found;
        }

        /** By how much less unlike all would be; 0 also if the two can't be changed. */
        private int gainOfSwap(Arm one, Arm other) {
            int side = one.spot % 10;
            if (one.isInDrawer() || other.isInDrawer() || side != other.spot % 10) {
                return 0;
            }
            int d = one.spot / 10;
            int e = other.spot / 10;
            if (!isDoll(d) || !isDoll(e) || !one.suits(dolls[e], side) || !other.suits(dolls[d], side)) {
                return 0;
            }
            return one.farFrom(dolls[d]) + other.farFrom(dolls[e]) - one.farFrom(dolls[e]) - other.farFrom(dolls[d]);
        }

        private int drawBelow(int n) {
            seed = seed * 1103515245 + 12345;
            return n > 0 ? (seed >>> 16) % n : 0;
        }

        /** There must be an arm and a doll. */
        void passDay() {
            for (int d = 0; d < dollCount; d++) {
                dolls[d].days = Math.min(Doll.MOST_DAYS, dolls[d].days + 1);
            }
            today++;
            int arm = drawBelow(armCount);
            int doll = drawBelow(dollCount);
            int side = drawBelow(2);
            if (canCome(arm, doll, side)) {
                mendWith(arm, doll, side);
            } else if (arms[arm].isOn(doll, side)) {
                arms[arm].comeOff();
            }
        }
    }

    /**
     * Which arm of the drawer goes to which empty side. Free arms have places and empty sides have slots,
     * both in the order of their numbers. Best counts for the slots from one on and for each set of places
     * what that set can do for them: FILLED for each side filled, less the unlikeness; so one number asks
     * for most sides first and for least unlikeness then.
     */
    private static final class Parting {
        private static final int FILLED = 1000;
        private static final int SETS = 1 << Stock.MOST_ARMS;
        private static final int MOST_SLOTS = 2 * Stock.MOST_DOLLS;

        private final int[] best = new int[(MOST_SLOTS + 1) * SETS];
        private final int[] ahead = new int[SETS];
        private final int[] without = new int[MOST_SLOTS];
        private final int[] armOfPlace = new int[Stock.MOST_ARMS];
        private final int[] dollOfSlot = new int[MOST_SLOTS];
        private final int[] sideOfSlot = new int[MOST_SLOTS];
        private final int[] ableInSlot = new int[MOST_SLOTS];
        private final int[] worth = new int[MOST_SLOTS * Stock.MOST_ARMS];
        private final Arm anew = new Arm();
        private int places = 0;
        private int slots = 0;
        private boolean changed = false;

        /** Calls often come in rows over one shop, so what is weighed stands until the shop changes it. */
        void weigh(Stock stock) {
            changed = false;
            findPlaces(stock);
            findSlots(stock);
            if (!changed) {
                return;
            }
            for (int set = 0; set <= all(); set++) {
                best[slots * SETS + set] = 0;
            }
            for (int slot = slots - 1; slot >= 0; slot--) {
                for (int set = 0; set <= all(); set++) {
                    best[slot * SETS + set] = bestWith(best, (slot + 1) * SETS, set, slot);
                }
            }
        }

        private int all() {
            return (1 << places) - 1;
        }

        private void findPlaces(Stock stock) {
            int found = 0;
            for (int i = 0; i < stock.armCount; i++) {
                if (stock.arms[i].isInDrawer()) {
                    keep(armOfPlace, found, i);
                    found++;
                }
            }
            changed |= found != places;
            places = found;
        }

        private void findSlots(Stock stock) {
            int found = 0;
            for (int d = 0; d < stock.dollCount; d++) {
                for (int side = 0; side <= 1; side++) {
                    if (stock.armAt(d, side) == NONE) {
                        keepSlot(stock, found, d, side);
                        found++;
                    }
                }
            }
            changed |= found != slots;
            slots = found;
        }

        private void keepSlot(Stock stock, int slot, int doll, int side) {
            keep(dollOfSlot, slot, doll);
            keep(sideOfSlot, slot, side);
            int able = 0;
            for (int p = 0; p < places; p++) {
                Arm arm = stock.arms[armOfPlace[p]];
                if (arm.suits(stock.dolls[doll], side)) {
                    able |= 1 << p;
                }
                keep(worth, slot * Stock.MOST_ARMS + p, FILLED - arm.farFrom(stock.dolls[doll]));
            }
            keep(ableInSlot, slot, able);
        }

        private void keep(int[] row, int i, int v) {
            changed |= row[i] != v;
            row[i] = v;
        }

        /** The best that a set can do for a slot and the slots in rest (its row begins at base). */
        private int bestWith(int[] rest, int base, int set, int slot) {
            int most = rest[base + set];
            int able = set & ableInSlot[slot];
            for (int p = 0; p < places; p++) {
                if ((able >> p & 1) != 0) {
                    most = Math.max(most, worth[slot * Stock.MOST_ARMS + p] + rest[base + (set ^ 1 << p)]);
                }
            }
            return most;
        }

        int filled() {
            return filledBy(best[all()]);
        }

        int unlikeness() {
            return FILLED * filled() - best[all()];
        }

        /** All unlikeness together is below FILLED, so rounding up finds how many sides were filled. */
        private static int filledBy(int value) {
            return (value + FILLED - 1) / FILLED;
        }

        /** Goes through the slots; each takes the first arm that still leaves the best to be had. */
        int armForSide(int doll, int side) {
            int set = all();
            for (int slot = 0; slot < slots; slot++) {
                int p = firstPlace(slot, set);
                if (dollOfSlot[slot] == doll && sideOfSlot[slot] == side) {
                    return p == NONE ? NONE : armOfPlace[p];
                }
                if (p != NONE) {
                    set ^= 1 << p;
                }
            }
            return NONE;
        }

        private int firstPlace(int slot, int set) {
            int able = set & ableInSlot[slot];
            for (int p = 0; p < places; p++) {
                if ((able >> p & 1) != 0) {
                    int value = worth[slot * Stock.MOST_ARMS + p] + best[(slot + 1) * SETS + (set ^ 1 << p)];
                    if (value == best[slot * SETS + set]) {
                        return p;
                    }
                }
            }
            return NONE;
        }

        int mostMissed() {
            int found = NONE;
            int least = 0;
            for (int p = 0; p < places; p++) {
                int left = best[all() ^ 1 << p];
                if (found == NONE || left < least) {
                    found = armOfPlace[p];
                    least = left;
                }
            }
            return found;
        }

        int castAnew(Stock stock) {
            weighWithoutEach();
            int found = 0;
            int most = best[all()];
            for (int code = 0; code < 200; code++) {
                anew.become(Arm.PLAIN, 0, code / 100, code / 10 % 10, code % 10, 0);
                int value = bestWithAnew(stock);
                if (value > most) {
                    most = value;
                    found = code;
                }
            }
            return found;
        }

        /** For each slot the best that all places can do for the others: those ahead of it and those behind. */
        private void weighWithoutEach() {
            for (int set = 0; set <= all(); set++) {
                ahead[set] = 0;
            }
            for (int slot = 0; slot < slots; slot++) {
                without[slot] = 0;
                // downwards, so that the smaller sets still stand as they were ahead of this slot
                for (int set = all(); set >= 0; set--) {
                    int both = ahead[set] + best[(slot + 1) * SETS + (all() ^ set)];
                    without[slot] = Math.max(without[slot], both);
                    ahead[set] = bestWith(ahead, 0, set, slot);
                }
            }
        }

        private int bestWithAnew(Stock stock) {
            int most = best[all()];
            for (int slot = 0; slot < slots; slot++) {
                Doll doll = stock.dolls[dollOfSlot[slot]];
                if (anew.suits(doll, sideOfSlot[slot])) {
                    most = Math.max(most, without[slot] + FILLED - anew.farFrom(doll));
                }
            }
            return most;
        }
    }

    /** Who is done first, and who is done in time. */
    private static final class Waiting {
        private static final int SETS = 1 << Stock.MOST_DOLLS;

        /** By the set of the dolls that are done: the least tears that the others cost. */
        private final int[] least = new int[SETS];

        void weigh(Stock stock) {
            int all = (1 << stock.dollCount) - 1;
            least[all] = 0;
            for (int set = all - 1; set >= 0; set--) {
                int next = firstNext(stock, set);
                least[set] = next == NONE ? 0 : costOfNext(stock, set, next);
            }
        }

        int tearsInAll() {
            return least[0];
        }

        int dollAt(Stock stock, int i) {
            int set = 0;
            for (int at = 0; at < i; at++) {
                int next = firstNext(stock, set);
                if (next != NONE) {
                    set |= 1 << next;
                }
            }
            return firstNext(stock, set);
        }

        /** The first of those whose being next costs least. */
        private int firstNext(Stock stock, int set) {
            int found = NONE;
            int lowest = 0;
            for (int d = 0; d < stock.dollCount; d++) {
                if ((set >> d & 1) == 0) {
                    int cost = costOfNext(stock, set, d);
                    if (found == NONE || cost < lowest) {
                        found = d;
                        lowest = cost;
                    }
                }
            }
            return found;
        }

        private int costOfNext(Stock stock, int set, int doll) {
            int with = set | 1 << doll;
            return stock.dolls[doll].tears * minutesOf(stock, with) + least[with];
        }

        private int minutesOf(Stock stock, int set) {
            int sum = 0;
            for (int d = 0; d < stock.dollCount; d++) {
                if ((set >> d & 1) != 0) {
                    sum += stock.dolls[d].minutes;
                }
            }
            return sum;
        }

        int tearsOf(Stock stock, int set) {
            int sum = 0;
            for (int d = 0; d < stock.dollCount; d++) {
                if ((set >> d & 1) != 0) {
                    sum += stock.dolls[d].tears;
                }
            }
            return sum;
        }

        int doneWithin(Stock stock, int time) {
            int found = 0;
            int most = 0;
            for (int set = 1; set < 1 << stock.dollCount; set++) {
                if (minutesOf(stock, set) <= time && tearsOf(stock, set) > most) {
                    found = set;
                    most = tearsOf(stock, set);
                }
            }
            return found;
        }
    }

    /** Reads a shop from a row of letters, over a stock; at the first fault it leaves the stock half told. */
    private static final class Reader {
        private static final int[] ARM_MOST = {Arm.GLUED, 9, 1, 9, 9, 9};
        private static final int[] ARM_LEAST = {0, 0, 0, 0, 0, 0};
        private static final int[] DOLL_MOST =
                {9, 9, 9, Doll.THAT_IT_HOLDS, Doll.MOST_MINUTES, Doll.MOST_TEARS, Doll.MOST_BEARS};
        private static final int[] DOLL_LEAST = {0, 0, 0, 0, 1, 0, 0};

        int fault = NONE;
        private final Stock stock;
        private Shelf text;
        private int place = 0;
        private int wordPlace = 0;
        private int numberPlace = 0;
        private final int[] numbers = new int[7];

        Reader(Stock over, Shelf firstText) {
            stock = over;
            text = firstText;
        }

        /** How many items; NONE, and the fault, if it can't be read. */
        int readAll(Shelf ofText) {
            text = ofText;
            place = 0;
            fault = NONE;
            for (int items = 1; items <= Shelf.MOST; items++) {
                if (!readItem()) {
                    return NONE;
                }
                if (place == text.count) {
                    return items;
                }
                if (!spells(";")) {
                    return NONE;
                }
            }
            return NONE;
        }

        private boolean stopAt(int where) {
            fault = where;
            return false;
        }

        private boolean readItem() {
            wordPlace = place;
            switch (text.read(place)) {
                case 'a': return spells("arm") && readArm();
                case 'd': return spells("doll") && readDoll();
                case 'l': return spells("lies") && readLies();
                case 'o':
                    if (text.read(place + 1) == 'n') {
                        return spells("on") && readOn();
                    }
                    return spells("off") && readOff();
                default: return stopAt(place);
            }
        }

        /** Past the text's end read() gives no letter, so that the place is the number of elements then. */
        private boolean spells(String word) {
            for (int i = 0; i < word.length(); i++) {
                if (text.read(place) != word.charAt(i)) {
                    return stopAt(place);
                }
                place++;
            }
            return true;
        }

        private boolean readArm() {
            if (!stock.hasRoomForArm()) {
                return stopAt(wordPlace);
            }
            if (!readNumbers(ARM_LEAST, ARM_MOST)) {
                return false;
            }
            stock.addArm(numbers[0], numbers[1], numbers[2], numbers[3], numbers[4], numbers[5]);
            return true;
        }

        private boolean readDoll() {
            if (!stock.hasRoomForDoll()) {
                return stopAt(wordPlace);
            }
            if (!readNumbers(DOLL_LEAST, DOLL_MOST)) {
                return false;
            }
            stock.addDoll(numbers[0], numbers[1], numbers[2], numbers[3], numbers[4], numbers[5], numbers[6]);
            return true;
        }

        private boolean readOn() {
            int arm = readNumber();
            if (arm == NONE) {
                return false;
            }
            if (!stock.isArm(arm) || !stock.arms[arm].isInDrawer()) {
                return stopAt(numberPlace);
            }
            int doll = readNumber();
            if (doll == NONE) {
                return false;
            }
            int side = stock.arms[arm].side;
            if (!stock.isDoll(doll) || !stock.canCome(arm, doll, side)) {
                return stopAt(numberPlace);
            }
            stock.arms[arm].comeOn(doll, side);
            return true;
        }

        private boolean readOff() {
            int arm = readNumber();
            if (arm == NONE) {
                return false;
            }
            if (!stock.isArm(arm) || stock.arms[arm].isInDrawer()) {
                return stopAt(numberPlace);
            }
            stock.arms[arm].comeOff();
            return true;
        }

        private boolean readLies() {
            int doll = readNumber();
            if (doll == NONE) {
                return false;
            }
            if (!stock.isDoll(doll)) {
                return stopAt(numberPlace);
            }
            int days = readNumber();
            if (days == NONE) {
                return false;
            }
            stock.dolls[doll].days = days;
            return true;
        }

        private boolean readNumbers(int[] least, int[] most) {
            for (int i = 0; i < most.length && i < least.length && i < numbers.length; i++) {
                int v = readNumber();
                if (v == NONE) {
                    return false;
                }
                if (v < least[i] || v > most[i]) {
                    return stopAt(numberPlace);
                }
                numbers[i] = v;
            }
            return true;
        }

        /** A blank and 1 or 2 digits; NONE, and the fault, if they aren't there. */
        private int readNumber() {
            if (text.read(place) != ' ') {
                stopAt(place);
                return NONE;
            }
            place++;
            numberPlace = place;
            int first = digitOf(text.read(place));
            if (first == NONE) {
                stopAt(place);
                return NONE;
            }
            place++;
            int second = digitOf(text.read(place));
            if (second == NONE) {
                return first;
            }
            place++;
            return 10 * first + second;
        }

        private static int digitOf(int letter) {
            return letter >= '0' && letter <= '9' ? letter - '0' : NONE;
        }
    }

    /** The moves of arms, and the trace of the bodies that ran. */
    private static final class Moves {
        static final int BENDS = 0;
        static final int WAVES = 1;
        static final int DROPS = 2;
        private static final int KEPT = 20;
        private static final int DEEPEST = 40;
        /** By kinds, and in each by moves, the number of its own body; 0: it has none. */
        private static final int[] BODIES = {
            10, 11, 12,
            20, 0, 0,
            0, 30, 0,
            40, 0, 0,
            51, 0, 50,
            0, 0, 60,
            70, 71, 0,
        };

        int ran = 0;
        private final int[] kept = new int[KEPT];
        private Arm arm;
        private int number = NONE;

        Moves(Arm firstArm) {
            arm = firstArm;
        }

        void forget() {
            ran = 0;
        }

        int bodyAt(int i) {
            return i >= 0 && i < ran && i < KEPT ? kept[i] : NONE;
        }

        int make(Arm ofArm, int itsNumber, int move, int x) {
            arm = ofArm;
            number = itsNumber;
            return run(arm.kind, move, x, 0);
        }

        private void note(int body) {
            if (ran < KEPT) {
                kept[ran] = body;
            }
            ran++;
        }

        /** Runs the body of a kind, or of the next kind above that has one. */
        private int run(int from, int move, int x, int depth) {
            if (depth > DEEPEST) {
                return 0;
            }
            int kind = from;
            for (int up = 0; up <= Arm.GLUED && kind != NONE; up++) {
                int body = bodyOf(kind, move);
                if (body != 0) {
                    note(body);
                    return outcome(body, Arm.above(kind), x, depth + 1);
                }
                kind = Arm.above(kind);
            }
            return 0;
        }

        private static int bodyOf(int kind, int move) {
            boolean known = within(kind, Arm.PLAIN, Arm.GLUED) && within(move, BENDS, DROPS);
            return known ? BODIES[3 * kind + move] : 0;
        }

        private int outcome(int body, int above, int x, int depth) {
            switch (body) {
                case 10: return x + number;
                case 11: return run(arm.kind, BENDS, x, depth) * 2;
                case 12: return run(arm.kind, WAVES, x, depth) ^ run(arm.kind, BENDS, x - arm.a, depth);
                case 20: return run(above, BENDS, x, depth) + arm.a;
                case 30: return run(above, WAVES, x, depth) * 3;
                case 40: return run(above, BENDS, x + 1, depth);
                case 50: return -run(above, DROPS, x, depth);
                case 51: return run(above, BENDS, x, depth) - number;
                case 60: return run(above, DROPS, x, depth) ^ 5;
                case 70: return run(above, BENDS, x, depth) * 2;
                case 71: return run(above, WAVES, x - arm.a, depth);
                default: return 0;
            }
        }
    }
}
