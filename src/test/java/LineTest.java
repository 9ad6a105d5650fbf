/** Promises 1 to 8: a new object, and how the line is told and closed. */
public final class LineTest {
    private static final double NAN = 0.0 / 0.0;
    private static final double INFINITE = 1.0 / 0.0;
    private static final double ABOVE_ONE = Math.nextUp(1.0);
    private static final double ABOVE_TEN = Math.nextUp(10.0);
    private static final double BELOW_ZERO = -Double.MIN_VALUE;
    private static final Due due = new Due();

    public static void main(String[] args) {
        aNewObject();
        belts();
        heads();
        placesOfHeads();
        bunkers();
        joins();
        joinsCarry();
        rules();
        rulesCarry();
        pickers();
        robots();
        closedByTheFirstPiece();
        due.end();
    }

    private static SortLineEvents withBelt() {
        SortLineEvents line = new SortLineEvents(7L);
        line.belt(10, 5.0);
        return line;
    }

    private static void aNewObject() {
        long[] seeds = {0L, 1L, -1L, Long.MIN_VALUE, Long.MAX_VALUE};
        for (long seed : seeds) {
            SortLineEvents line = new SortLineEvents(seed);
            due.is("1: inside()", line.inside(), 0);
            due.is("1: same()", line.same(), true);
            due.losses("1: lost", line, "0,0,0,0");
            due.is("1: event(0, 0)", line.event(0, 0), -1);
            due.is("1: jam(0, 0)", line.jam(0, 0), -1);
            due.is("1: out(0, 0)", line.out(0, 0), -1);
            due.is("1: interval(0, 0, 0)", line.interval(0, 0, 0), -1.0);
            due.is("1: pieceKind(0)", line.pieceKind(0), -1);
            due.is("1: head(0, 0.0, 0.0)", line.head(0, 0.0, 0.0), -1);
            due.is("1: time is 0, run(-1)", line.run(-1), -1);
            due.is("1: time is 0, run(0)", line.run(0), 0);
            due.is("1: belt is 0", line.belt(1, 1.0), 0);
            due.is("1: time is 0, feed at 1", line.feed(0, 1, 0, 0.0), true);
        }
    }

    private static void belts() {
        SortLineEvents line = new SortLineEvents(0L);
        int[] wrongTenths = {0, -1, 1001, Integer.MIN_VALUE, Integer.MAX_VALUE};
        for (int tenths : wrongTenths) {
            due.is("2: belt of tenths " + tenths, line.belt(tenths, 1.0), -1);
        }
        double[] wrongLengths = {0.0, Math.nextDown(0.5), Math.nextUp(1000.0), -1.0, NAN, INFINITE, -INFINITE};
        for (double length : wrongLengths) {
            due.is("2: belt of length " + length, line.belt(1, length), -1);
        }
        due.is("2: least belt", line.belt(1, 0.5), 0);
        due.is("2: greatest belt", line.belt(1000, 1000.0), 1);
        line.run(10);
        for (int number = 2; number < 6; number++) {
            due.is("2: belt after a run", line.belt(5, 1.0), number);
        }
        due.is("2: a seventh belt", line.belt(5, 1.0), -1);
        due.is("2: no belt 6", line.feed(6, 11, 0, 0.0), false);
        line.feed(5, 11, 0, 1.0);
        line.feed(0, 12, 0, 1.0);
        due.is("2: joined to nothing, of its tenths", line.run(30), 4);
        due.events("2: events", line, 0, "11/0/0/5 12/1/0/0 13/1/4/0 16/0/4/5");
    }

    private static void heads() {
        SortLineEvents line = withBelt();
        due.is("3: no belt 1", line.head(1, 0.0, 0.0), -1);
        due.is("3: no belt -1", line.head(-1, 0.0, 0.0), -1);
        due.is("3: no belt MIN", line.head(Integer.MIN_VALUE, 0.0, 0.0), -1);
        due.is("3: no belt MAX", line.head(Integer.MAX_VALUE, 0.0, 0.0), -1);
        double[] wrongPlaces = {BELOW_ZERO, Math.nextUp(5.0), NAN, INFINITE};
        for (double at : wrongPlaces) {
            due.is("3: head at " + at, line.head(0, at, 0.0), -1);
        }
        double[] wrongMisses = {BELOW_ZERO, ABOVE_ONE, NAN, INFINITE};
        for (double miss : wrongMisses) {
            due.is("3: head of miss " + miss, line.head(0, 1.0, miss), -1);
        }
        for (int number = 0; number < 8; number++) {
            due.is("3: head", line.head(0, number % 2 == 0 ? 0.0 : 5.0, number % 2), number);
        }
        due.is("3: a ninth head", line.head(0, 0.0, 0.0), -1);
        line.feed(0, 1, 0, 1.0);
        due.is("3: all 8 stand there", line.run(20), 10);
        due.events("3: events", line, 0,
                "1/0/0/0 1/0/1/0 1/0/1/2 1/0/1/4 1/0/1/6 11/0/2/1 11/0/2/3 11/0/2/5 11/0/2/7 11/0/4/0");
    }

    private static void placesOfHeads() {
        SortLineEvents line = new SortLineEvents(3L);
        line.belt(10, 3.0);
        line.belt(3, 0.9);
        line.head(0, 1.0, 0.0);
        line.head(0, 0.875, 0.0);
        line.head(0, 2.9999, 0.0);
        line.head(0, -0.0, 0.0);
        line.head(1, 0.3, 1.0);
        line.feed(0, 100, 0, 1.0);
        line.feed(1, 200, 0, 1.0);
        line.run(300);
        // 0.3 * 3 / 0.9 is less than 1 as doubles, 0.3 / 0.9 * 3 is not.
        due.events("3: places, down", line, 0,
                "100/0/0/0 100/0/1/3 102/0/1/1 103/0/1/0 109/0/1/2 110/0/4/0 200/1/0/1 "
                + "201/1/2/4 203/1/4/1");
    }

    private static void bunkers() {
        SortLineEvents line = new SortLineEvents(0L);
        double[] wrongRooms = {BELOW_ZERO, Math.nextUp(10000.0), NAN, INFINITE, -INFINITE};
        for (double room : wrongRooms) {
            due.is("4: bunker of " + room, line.bunker(room), -1);
        }
        due.is("4: bunker", line.bunker(0.0), 0);
        due.is("4: bunker", line.bunker(10000.0), 1);
        due.is("4: bunker", line.bunker(0.3), 2);
        due.is("4: bunker", line.bunker(1.0), 3);
        due.is("4: a fifth bunker", line.bunker(1.0), -1);
        for (int belt = 0; belt < 4; belt++) {
            line.belt(1, 1.0);
            line.joinTo(belt, -2 - belt);
        }
        line.feed(0, 1, 0, 0.0);
        line.feed(0, 2, 0, 0.125);
        line.feed(1, 3, 0, 10.0);
        line.feed(2, 4, 0, 0.1);
        line.feed(2, 5, 0, 0.2);
        line.feed(2, 6, 0, 0.0);
        line.feed(3, 7, 0, 0.75);
        line.feed(3, 8, 0, 0.5);
        line.feed(3, 9, 0, 0.25);
        line.run(20);
        // 0.1 + 0.2 is more than 0.3 as doubles.
        due.events("4: rooms", line, 0, "1/0/0/0 2/0/9/0 2/1/0/0 3/1/8/0 3/2/0/1 4/2/9/1 4/3/0/2 "
                + "5/3/9/2 5/4/0/2 6/4/8/2 6/5/0/2 7/5/9/2 7/6/0/3 8/6/9/3 8/7/0/3 9/7/8/3 9/8/0/3 10/8/9/3");
        due.losses("4: lost", line, "0,0,3,0");
        due.is("4: inside()", line.inside(), 6);
    }

    private static void joins() {
        SortLineEvents line = new SortLineEvents(0L);
        due.is("5: no belt at all", line.joinTo(0, -1), false);
        line.belt(2, 1.0);
        line.belt(2, 1.0);
        int[] wrongTos = {2, 6, -2, -3, Integer.MAX_VALUE, Integer.MIN_VALUE, Integer.MIN_VALUE + 1};
        for (int to : wrongTos) {
            due.is("5: joinTo(0, " + to + ")", line.joinTo(0, to), false);
        }
        line.bunker(1.0);
        due.is("5: no bunker 1", line.joinTo(0, -3), false);
        due.is("5: to nothing", line.joinTo(0, -1), true);
        due.is("5: to itself", line.joinTo(0, 0), true);
        due.is("5: to bunker 0", line.joinTo(0, -2), true);
        due.is("5: to belt 1", line.joinTo(0, 1), true);
        due.is("5: no belt 2", line.joinTo(2, -1), false);
        due.is("5: no belt -1", line.joinTo(-1, -1), false);
        due.is("5: refused keeps the join", line.joinTo(0, 2), false);
        line.feed(0, 1, 0, 1.0);
        line.run(10);
        due.events("5: the last join holds", line, 0, "1/0/0/0 3/0/0/1 5/0/4/1");
    }

    private static void joinsCarry() {
        SortLineEvents back = withBelt();
        back.bunker(5.0);
        back.joinTo(0, -2);
        back.joinTo(0, -1);
        back.feed(0, 1, 0, 1.0);
        back.run(30);
        due.events("5: joined to nothing again", back, 0, "1/0/0/0 11/0/4/0");
        SortLineEvents ring = withBelt();
        ring.joinTo(0, 0);
        ring.head(0, 0.0, 0.0);
        ring.feed(0, 1, 0, 1.0);
        ring.run(21);
        due.events("5: a ring", ring, 0, "1/0/0/0 1/0/1/0 11/0/0/0 11/0/1/0 21/0/0/0 21/0/1/0");
        SortLineEvents second = withBelt();
        second.bunker(0.0);
        second.bunker(5.0);
        second.joinTo(0, 0);
        second.joinTo(0, -3);
        second.feed(0, 1, 0, 1.0);
        second.run(30);
        due.events("5: bunker 1", second, 0, "1/0/0/0 11/0/9/1");
    }

    private static void rules() {
        SortLineEvents line = withBelt();
        due.is("6: no belt 1", line.rule(1, 1.0, 1), false);
        due.is("6: no belt -1", line.rule(-1, 1.0, 1), false);
        double[] wrongLoads = {BELOW_ZERO, Math.nextUp(10000.0), NAN, INFINITE};
        for (double load : wrongLoads) {
            due.is("6: load " + load, line.rule(0, load, 1), false);
        }
        int[] wrongStands = {0, -1, 1001, Integer.MIN_VALUE, Integer.MAX_VALUE};
        for (int stands : wrongStands) {
            due.is("6: stands " + stands, line.rule(0, 0.0, stands), false);
        }
        line.feed(0, 1, 0, 10.0);
        due.is("6: refused rules are none", line.run(1), 1);
        due.is("6: it entered", line.event(0, 2), 0);
        SortLineEvents edges = withBelt();
        due.is("6: greatest", edges.rule(0, 10000.0, 1000), true);
        due.is("6: least", edges.rule(0, 0.0, 1), true);
        edges.feed(0, 1, 0, 0.0);
        edges.feed(0, 2, 0, Double.MIN_VALUE);
        edges.feed(0, 3, 0, 0.0);
        edges.run(20);
        due.events("6: the last rule holds", edges, 0, "1/0/0/0 2/1/3/0 3/2/0/0 12/0/4/0 13/2/4/0");
        due.losses("6: lost", edges, "1,0,0,1");
    }

    private static void rulesCarry() {
        SortLineEvents line = new SortLineEvents(0L);
        line.belt(10, 1.0);
        line.belt(10, 1.0);
        line.rule(1, 2.0, 3);
        line.feed(0, 1, 0, 10.0);
        line.feed(1, 2, 0, 2.0);
        line.feed(1, 3, 0, 0.5);
        line.run(6);
        due.events("6: of one belt alone", line, 0, "1/0/0/0 2/1/0/1 3/2/3/1");
    }

    private static void pickers() {
        SortLineEvents line = withBelt();
        due.is("7: no belt 1", line.picker(1, 1.0, 1.0), -1);
        due.is("7: no belt -1", line.picker(-1, 1.0, 1.0), -1);
        double[] wrongRates = {0.0, Math.nextDown(0.125), Math.nextUp(100.0), -1.0, NAN, INFINITE};
        for (double rate : wrongRates) {
            due.is("7: rate " + rate, line.picker(0, rate, 1.0), -1);
        }
        double[] wrongTires = {BELOW_ZERO, ABOVE_TEN, NAN, INFINITE};
        for (double tires : wrongTires) {
            due.is("7: tires " + tires, line.picker(0, 1.0, tires), -1);
        }
        due.is("7: least", line.picker(0, 0.125, 0.0), 0);
        due.is("7: greatest", line.picker(0, 100.0, 10.0), 1);
        due.is("7: third", line.picker(0, 1.0, 1.0), 2);
        due.is("7: fourth", line.picker(0, 1.0, 1.0), 3);
        due.is("7: a fifth picker", line.picker(0, 1.0, 1.0), -1);
        for (int piece = 0; piece < 5; piece++) {
            line.feed(0, 1, 1, 1.0);
        }
        line.run(11);
        due.events("7: one each", line, 5, "11/0/5/0 11/1/5/1 11/2/5/2 11/3/5/3 11/4/4/0");
    }

    private static void robots() {
        SortLineEvents line = withBelt();
        due.is("8: no belt 1", line.robot(1, 1.0, 1.0), -1);
        due.is("8: no belt -1", line.robot(-1, 1.0, 1.0), -1);
        double[] wrongReaches = {BELOW_ZERO, ABOVE_TEN, NAN, INFINITE};
        for (double reach : wrongReaches) {
            due.is("8: reach " + reach, line.robot(0, reach, 0.0), -1);
        }
        double[] wrongMisses = {BELOW_ZERO, ABOVE_ONE, NAN, INFINITE};
        for (double miss : wrongMisses) {
            due.is("8: miss " + miss, line.robot(0, 1.0, miss), -1);
        }
        due.is("8: least", line.robot(0, 0.0, 0.0), 0);
        due.is("8: always misses", line.robot(0, 10.0, 1.0), 1);
        due.is("8: third", line.robot(0, 2.0, 0.0), 2);
        due.is("8: greatest", line.robot(0, 10.0, 0.0), 3);
        due.is("8: a fifth robot", line.robot(0, 1.0, 0.0), -1);
        line.feed(0, 1, 1, 0.0);
        line.feed(0, 2, 2, 2.0);
        line.feed(0, 3, 3, 2.5);
        line.feed(0, 4, 0, 0.0);
        line.feed(0, 5, 4, 10.0);
        line.run(30);
        due.events("8: who takes what", line, 5, "11/0/6/0 12/1/6/2 13/2/6/3 14/3/4/0 15/4/6/3");
    }

    private static void closedByTheFirstPiece() {
        SortLineEvents line = withBelt();
        due.is("a refused piece", line.feed(0, 0, 0, 1.0), false);
        due.is("does not close: belt", line.belt(1, 1.0), 1);
        due.is("does not close: bunker", line.bunker(1.0), 0);
        due.is("a piece", line.feed(0, 1, 0, 1.0), true);
        due.is("2: closed", line.belt(1, 1.0), -1);
        due.is("3: closed", line.head(0, 0.0, 0.0), -1);
        due.is("4: closed", line.bunker(1.0), -1);
        due.is("5: closed", line.joinTo(0, 1), false);
        due.is("5: closed", line.joinTo(0, -1), false);
        due.is("6: closed", line.rule(0, 0.0, 5), false);
        due.is("7: closed", line.picker(0, 1.0, 1.0), -1);
        due.is("8: closed", line.robot(0, 1.0, 0.0), -1);
        line.run(20);
        due.events("as it was told", line, 0, "1/0/0/0 11/0/4/0");
        due.is("closed for good", line.belt(1, 1.0), -1);
    }
}
