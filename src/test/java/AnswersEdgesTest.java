/** The edges of what can be asked, promises 9 to 18: none, the first, the last, and one more. */
public final class AnswersEdgesTest {
    private static final Due due = new Due();

    public static void main(String[] args) {
        feedingAtNow();
        runningToNow();
        eventsFromTheFirstToTheLast();
        twoThousandEvents();
        oneEventLess();
        countsGoOnBehindTheLastEvent();
        outsOfEach();
        insideOneByOne();
        jamsFromTheFirstToTheLast();
        sixtyJams();
        lossesOneByOne();
        intervalsOfNoneOneAndTwo();
        leastAndGreatestIntervals();
        intervalsOfOneKindAndBelt();
        sameAtEveryTenth();
        due.end();
    }

    private static void feedingAtNow() {
        for (int now : new int[] {0, 1, 5000, 9998, 9999}) {
            SortLineEvents line = Lines.ofBelts(3);
            line.run(now);
            due.is("9: before now", line.feed(0, now - 1, 0, 1.0), false);
            due.is("9: now", line.feed(0, now, 0, 1.0), false);
            due.is("9: later than now", line.feed(0, now + 1, 0, 1.0), true);
            due.is("9: at 10000", line.feed(0, 10000, 0, 1.0), true);
            due.is("9: at 10001", line.feed(0, 10001, 0, 1.0), false);
            due.is("10: enters in the next tenth", line.run(now + 1), now == 9999 ? 2 : 1);
            due.is("11: at its time", line.event(0, 0), now + 1);
            line.run(10000);
            due.is("13: the one fed at 10000 is inside", line.inside() >= 1, true);
            due.is("18: no refused piece", line.pieceKind(2), -1);
        }
        SortLineEvents over = Lines.ofBelts(3);
        over.run(10000);
        due.is("9: no tenth is later than 10000", over.feed(0, 10000, 0, 1.0), false);
        due.is("9: no tenth is later than 10000", over.feed(0, 10001, 0, 1.0), false);
        due.is("2: not closed by a refused piece", over.belt(1, 1.0), 1);
    }

    private static void runningToNow() {
        for (int now : new int[] {0, 1, 9999, 10000}) {
            SortLineEvents line = Lines.ofBelts(3);
            due.is("10: to " + now, line.run(now), 0);
            due.is("10: before " + now, line.run(now - 1), -1);
            due.is("10: to " + now + " again", line.run(now), 0);
            due.is("10: to 10001", line.run(10001), -1);
            due.is("10: to " + now + " still", line.run(now), 0);
            due.is("10: to 10000", line.run(10000), 0);
        }
        SortLineEvents stepped = Lines.ofBelts(3, 4);
        SortLineEvents atOnce = Lines.ofBelts(3, 4);
        for (SortLineEvents each : new SortLineEvents[] {stepped, atOnce}) {
            each.joinTo(0, 1);
            each.joinTo(1, 0);
            each.rule(0, 3.0, 2);
            for (int piece = 0; piece < 9; piece++) {
                each.feed(piece % 2, 1 + piece, piece % 5, 1.0);
            }
        }
        for (int time = 1; time <= 40; time++) {
            stepped.run(time);
        }
        due.is("10: tenth by tenth or at once", stepped.run(40), atOnce.run(40));
        for (int k = 0; k <= 40; k++) {
            for (int what = 0; what < 4; what++) {
                due.is("11: tenth by tenth or at once", stepped.event(k, what), atOnce.event(k, what));
            }
        }
    }

    private static void eventsFromTheFirstToTheLast() {
        SortLineEvents line = Lines.ofBelts(2);
        line.feed(0, 4, 0, 1.0);
        for (int what = 0; what < 4; what++) {
            due.is("11: none yet", line.event(0, what), -1);
        }
        line.run(4);
        int[][] want = {{4, 0, 0, 0}, {6, 0, 4, 0}};
        for (int what = 0; what < 4; what++) {
            due.is("11: the first", line.event(0, what), want[0][what]);
            due.is("11: no second", line.event(1, what), -1);
            due.is("11: before the first", line.event(-1, what), -1);
        }
        line.run(6);
        for (int what = 0; what < 4; what++) {
            due.is("11: the first", line.event(0, what), want[0][what]);
            due.is("11: the second", line.event(1, what), want[1][what]);
            due.is("11: no third", line.event(2, what), -1);
        }
        due.is("11: what = -1", line.event(1, -1), -1);
        due.is("11: what = 4", line.event(1, 4), -1);
    }

    private static SortLineEvents ring(int atOne, int atTwo) {
        SortLineEvents line = Lines.ofBelts(1, 1);
        line.joinTo(0, 0);
        line.rule(1, 1.0, 7);
        for (int piece = 0; piece < atOne + atTwo; piece++) {
            line.feed(0, piece < atOne ? 1 : 2, 0, 0.0);
        }
        return line;
    }

    private static void twoThousandEvents() {
        SortLineEvents line = ring(40, 0);
        due.is("10: 2000 events", line.run(50), 2000);
        due.is("11: the 2000th", line.event(1999, 0), 50);
        due.is("11: the 2000th", line.event(1999, 1), 39);
        due.is("11: no 2001st", line.event(2000, 0), -1);
        due.is("10: more than 2000 events", line.run(51), 2040);
        for (int what = 0; what < 4; what++) {
            due.is("11: the 2001st is not kept", line.event(2000, what), -1);
            due.is("11: the last is not kept", line.event(2039, what), -1);
        }
        due.is("11: the 2000th is kept", line.event(1999, 0), 50);
        due.is("11: the first is kept", line.event(0, 0), 1);
    }

    private static void oneEventLess() {
        SortLineEvents line = ring(39, 1);
        due.is("10: 1999 events", line.run(50), 1999);
        due.is("11: the 1999th", line.event(1998, 1), 39);
        due.is("11: no 2000th", line.event(1999, 1), -1);
        due.is("10: 2039 events", line.run(51), 2039);
        due.is("11: the 2000th", line.event(1999, 0), 51);
        due.is("11: the 2000th", line.event(1999, 1), 0);
        due.is("11: the 2001st is not kept", line.event(2000, 1), -1);
    }

    private static void countsGoOnBehindTheLastEvent() {
        SortLineEvents line = ring(50, 0);
        line.run(99);
        line.feed(1, 100, 3, 0.5);
        line.feed(1, 103, 3, 0.5);
        line.feed(1, 109, 3, 0.5);
        line.feed(1, 120, 1, 1.0);
        line.feed(1, 120, 1, 1.0);
        line.feed(1, 126, 1, 0.0);
        due.is("10: all are counted", line.run(127), 50 * 127 + 3 * 2 + 3);
        due.is("11: only the first are kept", line.event(2000, 0), -1);
        due.is("12: out behind 2000 events", line.out(1, 3), 3);
        due.is("13: inside behind 2000 events", line.inside(), 51);
        due.is("14: a jam behind 2000 events", line.jam(0, 0), 120);
        due.is("14: a jam behind 2000 events", line.jam(0, 1), 54);
        due.is("14: a jam behind 2000 events", line.jam(0, 2), 1);
        due.is("14: a jam behind 2000 events", line.jam(0, 3), 1);
        due.losses("15: lost behind 2000 events", line, "1,1,0,7");
        due.is("16: least behind 2000 events", line.interval(1, 3, 0), 0.3);
        due.is("16: greatest behind 2000 events", line.interval(1, 3, 1), 0.6);
        due.is("17: same behind 2000 events", line.same(), true);
    }

    private static void outsOfEach() {
        SortLineEvents line = Lines.ofBelts(1, 1, 1, 1, 1, 1);
        for (int belt = 0; belt < 6; belt++) {
            for (int kind = 0; kind < 5; kind++) {
                line.feed(belt, 1 + belt, kind, 1.0);
            }
            line.feed(belt, 9, belt % 5, 1.0);
        }
        line.run(9);
        for (int belt = 0; belt < 6; belt++) {
            for (int kind = 0; kind < 5; kind++) {
                due.is("12: one each", line.out(belt, kind), 1);
            }
        }
        line.run(10);
        for (int belt = 0; belt < 6; belt++) {
            for (int kind = 0; kind < 5; kind++) {
                due.is("12: one more", line.out(belt, kind), kind == belt % 5 ? 2 : 1);
            }
            due.is("12: kind -1", line.out(belt, -1), -1);
            due.is("12: kind 5", line.out(belt, 5), -1);
        }
        due.is("12: belt -1", line.out(-1, 0), -1);
        due.is("12: belt 6", line.out(6, 0), -1);
    }

    /** A piece is inside from the tenth in which it enters to the tenth before it leaves. */
    private static void insideOneByOne() {
        SortLineEvents line = Lines.ofBelts(3, 3);
        line.bunker(1.0);
        line.joinTo(0, -2);
        line.rule(1, 1.0, 2);
        line.feed(0, 2, 0, 1.0);
        line.feed(0, 3, 0, 1.0);
        line.feed(1, 4, 0, 1.0);
        line.feed(1, 5, 0, 1.0);
        line.feed(1, 6, 0, 1.0);
        int[] inside = {0, 0, 1, 2, 3, 3, 2, 2, 2, 1, 1};
        for (int time = 0; time < inside.length; time++) {
            line.run(time);
            due.is("13: at " + time, line.inside(), inside[time]);
        }
        due.losses("15: the others", line, "1,1,1,2");
        due.is("12: the others", line.out(1, 0), 1);
    }

    private static void jamsFromTheFirstToTheLast() {
        SortLineEvents line = Lines.ofBelts(100, 100);
        line.rule(1, 0.5, 2);
        line.feed(1, 3, 0, 1.0);
        line.feed(1, 5, 0, 0.5);
        line.feed(1, 7, 0, 1.0);
        int[][] want = {{3, 0, 1, 0}, {7, 2, 1, 1}};
        for (int what = 0; what < 4; what++) {
            due.is("14: none yet", line.jam(0, what), -1);
        }
        line.run(6);
        for (int what = 0; what < 4; what++) {
            due.is("14: the first", line.jam(0, what), want[0][what]);
            due.is("14: no second", line.jam(1, what), -1);
        }
        line.run(7);
        for (int what = 0; what < 4; what++) {
            due.is("14: before the first", line.jam(-1, what), -1);
            due.is("14: the first", line.jam(0, what), want[0][what]);
            due.is("14: the second", line.jam(1, what), want[1][what]);
            due.is("14: no third", line.jam(2, what), -1);
        }
        due.is("14: what = -1", line.jam(1, -1), -1);
        due.is("14: what = 4", line.jam(1, 4), -1);
    }

    /** No piece jams twice, so there are 60 at most. */
    private static void sixtyJams() {
        SortLineEvents line = Lines.ofBelts(1, 1, 1, 1, 1, 1);
        for (int belt = 0; belt < 6; belt++) {
            line.rule(belt, 0.0, 1);
        }
        for (int piece = 0; piece < 60; piece++) {
            line.feed(piece % 6, 1 + piece / 6, 0, 1.0);
        }
        line.run(9);
        due.is("14: the 54th", line.jam(53, 1), 53);
        due.is("14: no 55th", line.jam(54, 1), -1);
        line.run(10);
        for (int k = 0; k < 60; k++) {
            due.is("14: time of " + k, line.jam(k, 0), 1 + k / 6);
            due.is("14: piece of " + k, line.jam(k, 1), k);
            due.is("14: belt of " + k, line.jam(k, 2), k % 6);
            due.is("14: others of " + k, line.jam(k, 3), 0);
        }
        due.is("14: no 61st", line.jam(60, 0), -1);
        due.is("14: no 62nd", line.jam(61, 0), -1);
        due.losses("15: sixty jams", line, "60,0,0,60");
    }

    private static void lossesOneByOne() {
        SortLineEvents line = Lines.ofBelts(2, 1);
        line.bunker(0.0);
        line.joinTo(1, -2);
        line.rule(0, 0.0, 1000);
        line.feed(0, 2, 0, 1.0);
        line.feed(0, 3, 0, 1.0);
        line.feed(1, 3, 0, 1.0);
        line.feed(0, 1001, 0, 0.0);
        line.feed(0, 1002, 0, 1.0);
        line.feed(0, 10000, 0, 1.0);
        int[] times = {1, 2, 3, 4, 1000, 1001, 1002, 9999, 10000};
        String[] lost = {"0,0,0,0", "1,0,0,1000", "1,1,0,1000", "1,1,1,1000", "1,1,1,1000", "1,2,1,1000",
            "2,2,1,2000", "2,2,1,2000", "3,2,1,3000"};
        for (int i = 0; i < times.length; i++) {
            line.run(times[i]);
            due.losses("15: at " + times[i], line, lost[i]);
            due.is("15: cause -1", line.lost(-1), -1);
            due.is("15: cause 4", line.lost(4), -1);
        }
    }

    private static void intervalsOfNoneOneAndTwo() {
        for (int kind = 0; kind < 5; kind++) {
            SortLineEvents line = Lines.ofBelts(1);
            line.feed(0, 1, kind, 1.0);
            line.feed(0, 2, kind, 1.0);
            for (int time = 1; time <= 3; time++) {
                line.run(time);
                double want = time < 3 ? -1.0 : 0.1;
                due.is("16: least of " + line.out(0, kind), line.interval(0, kind, 0), want);
                due.is("16: greatest of " + line.out(0, kind), line.interval(0, kind, 1), want);
            }
            due.is("16: end = -1", line.interval(0, kind, -1), -1.0);
            due.is("16: end = 2", line.interval(0, kind, 2), -1.0);
            due.is("16: belt -1", line.interval(-1, kind, 0), -1.0);
            due.is("16: belt 1", line.interval(1, kind, 0), -1.0);
            due.is("16: another kind", line.interval(0, (kind + 1) % 5, 0), -1.0);
        }
        SortLineEvents line = Lines.ofBelts(1);
        due.is("16: kind -1", line.interval(0, -1, 0), -1.0);
        due.is("16: kind 5", line.interval(0, 5, 0), -1.0);
    }

    private static void leastAndGreatestIntervals() {
        SortLineEvents line = Lines.ofBelts(1);
        line.feed(0, 1, 4, 1.0);
        line.feed(0, 9999, 4, 1.0);
        line.run(9999);
        due.is("16: one", line.interval(0, 4, 0), -1.0);
        line.run(10000);
        due.is("16: the longest", line.interval(0, 4, 0), 999.8);
        due.is("16: the longest", line.interval(0, 4, 1), 999.8);
        SortLineEvents grows = Lines.ofBelts(1);
        int[] times = {10, 15, 19, 25, 25, 28};
        double[] least = {-1.0, 0.5, 0.4, 0.4, 0.0, 0.0};
        double[] greatest = {-1.0, 0.5, 0.5, 0.6, 0.6, 0.6};
        for (int time : times) {
            grows.feed(0, time, 1, 1.0);
        }
        for (int i = 0; i < times.length; i++) {
            grows.run(times[i] + 1);
            boolean isLastOfItsTenth = i + 1 == times.length || times[i + 1] > times[i];
            if (isLastOfItsTenth) {
                due.is("16: least at " + times[i], grows.interval(0, 1, 0), least[i]);
                due.is("16: greatest at " + times[i], grows.interval(0, 1, 1), greatest[i]);
            }
        }
    }

    /** Neither other kinds, nor other belts, nor pieces that are taken, joined on or lost come between. */
    private static void intervalsOfOneKindAndBelt() {
        SortLineEvents line = Lines.ofBelts(1, 1, 1);
        line.joinTo(2, 0);
        line.robot(0, 0.5, 0.0);
        line.feed(0, 1, 1, 1.0);
        line.feed(0, 2, 2, 1.0);
        line.feed(1, 3, 1, 1.0);
        line.feed(0, 4, 1, 0.5);
        line.feed(2, 5, 1, 1.0);
        line.run(20);
        due.is("16: out at 2 and at 7", line.interval(0, 1, 0), 0.5);
        due.is("16: out at 2 and at 7", line.interval(0, 1, 1), 0.5);
        due.is("16: one of kind 2", line.interval(0, 2, 0), -1.0);
        due.is("16: one of belt 1", line.interval(1, 1, 0), -1.0);
        due.is("16: none of belt 2", line.interval(2, 1, 0), -1.0);
    }

    private static void sameAtEveryTenth() {
        SortLineEvents line = Lines.ofBelts(2, 1);
        line.bunker(1.0);
        line.joinTo(0, -2);
        line.rule(1, 1.0, 2);
        line.picker(0, 1.0, 0.0);
        line.robot(1, 0.0, 0.0);
        due.is("17: no piece", line.same(), true);
        for (int piece = 0; piece < 20; piece++) {
            line.feed(piece % 2, 2 + piece, piece % 3, piece % 4 * 0.5);
        }
        due.is("17: none has entered", line.same(), true);
        for (int time = 0; time < 30; time++) {
            line.run(time);
            due.is("17: at " + time, line.same(), true);
        }
        line.run(10000);
        due.is("17: at the last tenth", line.same(), true);
    }
}
