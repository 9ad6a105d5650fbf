/**
 * A sorting line by events, in tenths of a second: pieces on belts pass heads that may miss them,
 * jam belts, are taken by robots and by hand, fill bunkers or go out; all by a seed.
 */
public final class SortLineEvents {
    public static final int NONE = -1;

    private static final int MOST_BELTS = 6;
    private static final int MOST_HEADS = 8;
    private static final int MOST_BUNKERS = 4;
    private static final int MOST_PICKERS = 4;
    private static final int MOST_ROBOTS = 4;
    private static final int MOST_PIECES = 60;
    private static final int MOST_JAMS = 60;
    private static final int MOST_EVENTS = 2000;
    private static final int LONGEST = 1000;
    private static final int LAST_TENTH = 10000;
    private static final int KINDS = 5;
    private static final int PLAIN_KIND = 0;

    private static final int TO_NOTHING = -1;
    private static final int TO_FIRST_BUNKER = -2;

    private static final int ENTERED = 0;
    private static final int SEEN = 1;
    private static final int MISSED = 2;
    private static final int JAMMED = 3;
    private static final int WENT_OUT = 4;
    private static final int TAKEN_BY_HAND = 5;
    private static final int TAKEN_BY_ROBOT = 6;
    private static final int LOST_AS_BELT_STANDS = 7;
    private static final int LOST_AT_BUNKER = 8;
    private static final int PUT_IN_BUNKER = 9;

    private static final int BY_JAMS = 0;
    private static final int BY_STANDING = 1;
    private static final int BY_BUNKERS = 2;
    private static final int TENTHS_STOOD = 3;
    private static final int CAUSES = 4;

    private static final int FIRST_ROBOT_DEVICE = 100;
    private static final long SEED_FACTOR = 6364136223846793005L;
    private static final long PIECE_FACTOR = 1442695040888963407L;
    private static final long DEVICE_FACTOR = 2862933555777941757L;
    private static final long MIX_FACTOR = -4658895280553007687L;
    private static final long CHANCE_STEPS = 9007199254740992L;

    private final long seed;
    private final Belt[] belts = new Belt[MOST_BELTS];
    private final Head[] heads = new Head[MOST_HEADS];
    private final Bunker[] bunkers = new Bunker[MOST_BUNKERS];
    private final Picker[] pickers = new Picker[MOST_PICKERS];
    private final Robot[] robots = new Robot[MOST_ROBOTS];
    private final Piece[] pieces = new Piece[MOST_PIECES];
    private final Log events = new Log(MOST_EVENTS);
    private final Log jams = new Log(MOST_JAMS);
    private final Tally tally = new Tally();
    private int beltCount;
    private int headCount;
    private int bunkerCount;
    private int pickerCount;
    private int robotCount;
    private int pieceCount;
    private int now;

    public SortLineEvents(long seed) {
        this.seed = seed;
    }

    public int belt(int tenths, double length) {
        if (isClosed() || beltCount >= MOST_BELTS) {
            return NONE;
        }
        if (!within(tenths, 1, LONGEST) || !within(length, 0.5, 1000.0)) {
            return NONE;
        }
        int number = beltCount;
        belts[number] = new Belt(number, tenths, length);
        beltCount++;
        return number;
    }

    public int head(int belt, double at, double miss) {
        Belt under = beltNumbered(belt);
        if (isClosed() || headCount >= MOST_HEADS || under == null) {
            return NONE;
        }
        if (!within(at, 0.0, under.length) || !within(miss, 0.0, 1.0)) {
            return NONE;
        }
        int number = headCount;
        heads[number] = new Head(under, under.placeOf(at), miss);
        headCount++;
        return number;
    }

    public int bunker(double room) {
        if (isClosed() || bunkerCount >= MOST_BUNKERS || !within(room, 0.0, 10000.0)) {
            return NONE;
        }
        int number = bunkerCount;
        bunkers[number] = new Bunker(number, room);
        bunkerCount++;
        return number;
    }

    public boolean joinTo(int belt, int to) {
        Belt from = beltNumbered(belt);
        if (isClosed() || from == null) {
            return false;
        }
        Belt nextBelt = beltNumbered(to);
        Bunker nextBunker = bunkerJoinedBy(to);
        if (to != TO_NOTHING && nextBelt == null && nextBunker == null) {
            return false;
        }
        from.nextBelt = nextBelt;
        from.nextBunker = nextBunker;
        return true;
    }

    public boolean rule(int belt, double load, int stands) {
        Belt ruled = beltNumbered(belt);
        if (isClosed() || ruled == null) {
            return false;
        }
        if (!within(load, 0.0, 10000.0) || !within(stands, 1, LONGEST)) {
            return false;
        }
        ruled.hasRule = true;
        ruled.load = load;
        ruled.stands = stands;
        return true;
    }

    public int picker(int belt, double rate, double tires) {
        Belt at = beltNumbered(belt);
        if (isClosed() || pickerCount >= MOST_PICKERS || at == null) {
            return NONE;
        }
        if (!within(rate, 0.125, 100.0) || !within(tires, 0.0, 10.0)) {
            return NONE;
        }
        int number = pickerCount;
        pickers[number] = new Picker(at, rate, tires);
        pickerCount++;
        return number;
    }

    public int robot(int belt, double reach, double miss) {
        Belt at = beltNumbered(belt);
        if (isClosed() || robotCount >= MOST_ROBOTS || at == null) {
            return NONE;
        }
        if (!within(reach, 0.0, 10.0) || !within(miss, 0.0, 1.0)) {
            return NONE;
        }
        int number = robotCount;
        robots[number] = new Robot(at, reach, miss);
        robotCount++;
        return number;
    }

    public boolean feed(int belt, int tenths, int kind, double size) {
        Belt first = beltNumbered(belt);
        if (pieceCount >= MOST_PIECES || first == null || !isKind(kind)) {
            return false;
        }
        if (tenths <= now || tenths > LAST_TENTH || !within(size, 0.0, 10.0)) {
            return false;
        }
        pieces[pieceCount] = new Piece(pieceCount, first, tenths, kind, size);
        pieceCount++;
        return true;
    }

    public int run(int tenths) {
        if (tenths < now || tenths > LAST_TENTH) {
            return NONE;
        }
        // A line on which every piece has come to rest has no more events: its tenths are skipped.
        for (int tenth = now + 1; tenth <= tenths && tally.atRest() < pieceCount; tenth++) {
            now = tenth;
            passOneTenth();
        }
        now = tenths;
        return events.total;
    }

    public int event(int k, int what) {
        return events.part(k, what);
    }

    public long out(int belt, int kind) {
        Belt from = beltNumbered(belt);
        if (from == null || !isKind(kind)) {
            return NONE;
        }
        return from.outs[kind].count;
    }

    public long inside() {
        return onBelts() + tally.inBunkers;
    }

    public int jam(int k, int what) {
        return jams.part(k, what);
    }

    public long lost(int cause) {
        return cause >= 0 && cause < CAUSES ? tally.losses[cause] : NONE;
    }

    public double interval(int belt, int kind, int end) {
        Belt from = beltNumbered(belt);
        if (from == null || !isKind(kind) || end < 0 || end > 1) {
            return -1.0;
        }
        Outs outs = from.outs[kind];
        if (outs.count < 2) {
            return -1.0;
        }
        return (end == 0 ? outs.leastGap : outs.greatestGap) / 10.0;
    }

    public boolean same() {
        int entered = 0;
        for (int i = 0; i < pieceCount; i++) {
            if (pieces[i].time <= now) {
                entered++;
            }
        }
        return entered == onBelts() + tally.atRest();
    }

    public int pieceKind(long number) {
        return number >= 0 && number < pieceCount ? pieces[(int) number].kind : NONE;
    }

    private boolean isClosed() {
        return pieceCount > 0;
    }

    /** Refuses NaN too, as no comparison with it holds. */
    private static boolean within(double value, double least, double greatest) {
        return value >= least && value <= greatest;
    }

    private static boolean isKind(int kind) {
        return kind >= 0 && kind < KINDS;
    }

    private Belt beltNumbered(int number) {
        return number >= 0 && number < beltCount ? belts[number] : null;
    }

    private Bunker bunkerJoinedBy(int to) {
        if (to > TO_FIRST_BUNKER) {
            return null;
        }
        int number = TO_FIRST_BUNKER - to;
        return number >= 0 && number < bunkerCount ? bunkers[number] : null;
    }

    private int onBelts() {
        int count = 0;
        for (int i = 0; i < pieceCount; i++) {
            if (pieces[i].belt != null) {
                count++;
            }
        }
        return count;
    }

    private void passOneTenth() {
        for (int i = 0; i < pieceCount; i++) {
            comeOn(pieces[i]);
        }
        for (int i = 0; i < pieceCount; i++) {
            act(pieces[i]);
        }
    }

    /** Whether it came on is kept, as its belt may jam in this tenth before the piece's turn. */
    private void comeOn(Piece piece) {
        Belt belt = piece.belt;
        piece.cameOn = belt != null && belt.movesAt(now);
        if (piece.cameOn) {
            piece.place++;
        }
    }

    private void act(Piece piece) {
        Belt belt = piece.belt;
        if (piece.time == now) {
            enter(piece, piece.firstBelt);
        } else if (belt != null && piece.cameOn) {
            passHeads(piece, belt);
            if (piece.place == belt.tenths) {
                leave(piece, belt);
            }
        }
    }

    private void enter(Piece piece, Belt belt) {
        if (belt.refusesAt(now)) {
            tally.losses[BY_STANDING]++;
            events.add(now, piece.number, LOST_AS_BELT_STANDS, belt.number);
        } else if (belt.hasRule && loadWith(piece, belt) > belt.load) {
            jamBy(piece, belt);
        } else {
            piece.belt = belt;
            piece.place = 0;
            events.add(now, piece.number, ENTERED, belt.number);
            passHeads(piece, belt);
        }
    }

    /** The order of the sum is promised, as doubles added in another order may differ. */
    private double loadWith(Piece entering, Belt belt) {
        double load = 0.0;
        for (int i = 0; i < pieceCount; i++) {
            Piece piece = pieces[i];
            if (piece == entering || piece.belt == belt) {
                load += piece.size;
            }
        }
        return load;
    }

    private void jamBy(Piece piece, Belt belt) {
        int others = 0;
        for (int i = 0; i < pieceCount; i++) {
            if (pieces[i].belt == belt) {
                others++;
            }
        }
        belt.standsUntil = now + belt.stands;
        tally.losses[BY_JAMS]++;
        tally.losses[TENTHS_STOOD] += belt.stands;
        jams.add(now, piece.number, belt.number, others);
        events.add(now, piece.number, JAMMED, belt.number);
    }

    private void passHeads(Piece piece, Belt belt) {
        for (int i = 0; i < headCount; i++) {
            Head head = heads[i];
            if (head.belt == belt && head.place == piece.place) {
                boolean missed = chance(piece.number, i) < head.miss;
                events.add(now, piece.number, missed ? MISSED : SEEN, i);
            }
        }
    }

    /** The piece is off its belt first, so that a belt joined to itself does not count it twice. */
    private void leave(Piece piece, Belt belt) {
        piece.belt = null;
        if (takenByRobot(piece, belt) || takenByPicker(piece, belt)) {
            tally.taken++;
        } else if (belt.nextBelt != null) {
            enter(piece, belt.nextBelt);
        } else if (belt.nextBunker != null) {
            fill(piece, belt.nextBunker);
        } else {
            tally.wentOut++;
            belt.outs[piece.kind].add(now);
            events.add(now, piece.number, WENT_OUT, belt.number);
        }
    }

    private boolean takenByRobot(Piece piece, Belt belt) {
        if (piece.kind == PLAIN_KIND) {
            return false;
        }
        for (int i = 0; i < robotCount; i++) {
            Robot robot = robots[i];
            if (robot.belt == belt && piece.size <= robot.reach
                    && chance(piece.number, FIRST_ROBOT_DEVICE + i) >= robot.miss) {
                events.add(now, piece.number, TAKEN_BY_ROBOT, i);
                return true;
            }
        }
        return false;
    }

    private boolean takenByPicker(Piece piece, Belt belt) {
        if (piece.kind == PLAIN_KIND) {
            return false;
        }
        for (int i = 0; i < pickerCount; i++) {
            Picker picker = pickers[i];
            if (picker.belt == belt && now >= picker.freeFrom) {
                picker.take(now);
                events.add(now, piece.number, TAKEN_BY_HAND, i);
                return true;
            }
        }
        return false;
    }

    private void fill(Piece piece, Bunker bunker) {
        double filled = bunker.filled + piece.size;
        if (filled <= bunker.room) {
            bunker.filled = filled;
            tally.inBunkers++;
            events.add(now, piece.number, PUT_IN_BUNKER, bunker.number);
        } else {
            tally.losses[BY_BUNKERS]++;
            events.add(now, piece.number, LOST_AT_BUNKER, bunker.number);
        }
    }

    private double chance(int piece, int device) {
        long x = seed * SEED_FACTOR + piece * PIECE_FACTOR + device * DEVICE_FACTOR;
        x = (x ^ (x >>> 29)) * MIX_FACTOR;
        x = x ^ (x >>> 32);
        return (double) (x >>> 11) / (double) CHANCE_STEPS;
    }

    private static final class Belt {
        final int number;
        final int tenths;
        final double length;
        final Outs[] outs = new Outs[KINDS];
        Belt nextBelt;
        Bunker nextBunker;
        boolean hasRule;
        double load;
        int stands;
        int standsUntil;

        Belt(int number, int tenths, double length) {
            this.number = number;
            this.tenths = tenths;
            this.length = length;
            for (int kind = 0; kind < KINDS; kind++) {
                outs[kind] = new Outs();
            }
        }

        int placeOf(double at) {
            return (int) (at / length * tenths);
        }

        boolean movesAt(int time) {
            return time > standsUntil;
        }

        /** In its last standing tenth a belt does not move yet, but lets pieces enter again. */
        boolean refusesAt(int time) {
            return time < standsUntil;
        }
    }

    private static final class Head {
        final Belt belt;
        final int place;
        final double miss;

        Head(Belt belt, int place, double miss) {
            this.belt = belt;
            this.place = place;
            this.miss = miss;
        }
    }

    private static final class Bunker {
        final int number;
        final double room;
        double filled;

        Bunker(int number, double room) {
            this.number = number;
            this.room = room;
        }
    }

    private static final class Picker {
        final Belt belt;
        final double rate;
        final double tires;
        int took;
        int freeFrom;

        Picker(Belt belt, double rate, double tires) {
            this.belt = belt;
            this.rate = rate;
            this.tires = tires;
        }

        void take(int time) {
            freeFrom = time + 1 + (int) (10.0 / rate * (1.0 + tires * took));
            took++;
        }
    }

    private static final class Robot {
        final Belt belt;
        final double reach;
        final double miss;

        Robot(Belt belt, double reach, double miss) {
            this.belt = belt;
            this.reach = reach;
            this.miss = miss;
        }
    }

    private static final class Piece {
        final int number;
        final Belt firstBelt;
        final int time;
        final int kind;
        final double size;
        Belt belt;
        int place;
        boolean cameOn;

        Piece(int number, Belt firstBelt, int time, int kind, double size) {
            this.number = number;
            this.firstBelt = firstBelt;
            this.time = time;
            this.kind = kind;
            this.size = size;
        }
    }

    /** The pieces of one kind that went out of one belt, with the gaps between them in tenths. */
    private static final class Outs {
        int count;
        int lastTime;
        int leastGap;
        int greatestGap;

        void add(int time) {
            int gap = time - lastTime;
            if (count == 1) {
                leastGap = gap;
                greatestGap = gap;
            } else if (count > 1) {
                leastGap = Math.min(leastGap, gap);
                greatestGap = Math.max(greatestGap, gap);
            }
            lastTime = time;
            count++;
        }
    }

    /** What became of the pieces that are on no belt any more. */
    private static final class Tally {
        final long[] losses = new long[CAUSES];
        int inBunkers;
        int wentOut;
        int taken;

        long atRest() {
            return inBunkers + wentOut + taken
                    + losses[BY_JAMS] + losses[BY_STANDING] + losses[BY_BUNKERS];
        }
    }

    /**
     * Rows of four small numbers, the first ones kept and all counted. A row is packed into one int,
     * to keep an object small: a time (up to 10000), a piece and a fourth number (below 64), and a
     * third number (below 16).
     */
    private static final class Log {
        final int[] rows;
        int total;

        Log(int most) {
            rows = new int[most];
        }

        void add(int time, int piece, int third, int fourth) {
            if (total < rows.length) {
                rows[total] = time << 16 | piece << 10 | third << 6 | fourth;
            }
            total++;
        }

        int part(int k, int what) {
            if (k < 0 || k >= total || k >= rows.length) {
                return NONE;
            }
            int row = rows[k];
            switch (what) {
                case 0:
                    return row >> 16;
                case 1:
                    return row >> 10 & 63;
                case 2:
                    return row >> 6 & 15;
                case 3:
                    return row & 63;
                default:
                    return NONE;
            }
        }
    }
}
