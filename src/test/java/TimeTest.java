/** Promises 9 to 11: pieces that are fed, time that goes on, and its events. */
public final class TimeTest {
    private static final Due due = new Due();

    public static void main(String[] args) {
        feeding();
        running();
        eventsAnswer();
        onlyTheFirstEventsAreKept();
        chances();
        headsThenRobotsThenPickers();
        pickersTire();
        pickersAreFreeAgain();
        pickersByTheOrderOfTheirSum();
        pickersTakeAtTheirBeltAlone();
        aBeltStands();
        aJamInTheTenthOfAnEnd();
        loadsAreAddedByNumbers();
        aRingThatJams();
        stoodAtAHead();
        lastTenth();
        due.end();
    }

    private static void feeding() {
        SortLineEvents line = Lines.ofBelts(4);
        line.run(5);
        due.is("9: no belt 1", line.feed(1, 6, 0, 1.0), false);
        due.is("9: no belt -1", line.feed(-1, 6, 0, 1.0), false);
        int[] wrongTimes = {5, 0, -1, 10001, Integer.MIN_VALUE, Integer.MAX_VALUE};
        for (int time : wrongTimes) {
            due.is("9: at " + time, line.feed(0, time, 0, 1.0), false);
        }
        int[] wrongKinds = {-1, 5, Integer.MIN_VALUE, Integer.MAX_VALUE};
        for (int kind : wrongKinds) {
            due.is("9: kind " + kind, line.feed(0, 6, kind, 1.0), false);
        }
        double[] wrongSizes = {-Double.MIN_VALUE, Math.nextUp(10.0), 0.0 / 0.0, 1.0 / 0.0};
        for (double size : wrongSizes) {
            due.is("9: size " + size, line.feed(0, 6, 0, size), false);
        }
        due.is("9: next tenth, least", line.feed(0, 6, 0, 0.0), true);
        due.is("9: last tenth, greatest", line.feed(0, 10000, 4, 10.0), true);
        for (int piece = 2; piece < 60; piece++) {
            due.is("9: piece " + piece, line.feed(0, 7, 1, 1.0), true);
        }
        due.is("9: a 61st piece", line.feed(0, 8, 1, 1.0), false);
        due.is("9: 59 entered", line.run(9), 59);
        due.is("9: still 60", line.feed(0, 10, 1, 1.0), false);
        SortLineEvents late = Lines.ofBelts(4);
        late.feed(0, 3, 0, 1.0);
        late.run(5);
        due.is("9: fed behind a run, at now", late.feed(0, 5, 0, 1.0), false);
        due.is("9: fed behind a run", late.feed(0, 6, 0, 1.0), true);
        late.run(20);
        due.events("9: events", late, 0, "3/0/0/0 6/1/0/0 7/0/4/0 10/1/4/0");
    }

    private static void running() {
        SortLineEvents line = Lines.ofBelts(3);
        due.is("10: run(10001)", line.run(10001), -1);
        due.is("10: run(-1)", line.run(-1), -1);
        due.is("10: run(MIN)", line.run(Integer.MIN_VALUE), -1);
        due.is("10: run(MAX)", line.run(Integer.MAX_VALUE), -1);
        due.is("10: run(2)", line.run(2), 0);
        due.is("10: back", line.run(1), -1);
        line.feed(0, 3, 0, 1.0);
        due.is("10: to now", line.run(2), 0);
        due.is("10: refused, nothing goes on", line.run(10001), -1);
        due.is("10: refused, nothing was", line.event(0, 0), -1);
        due.is("10: run(3)", line.run(3), 1);
        due.is("10: run(3) again", line.run(3), 1);
        due.is("10: run(5)", line.run(5), 1);
        due.is("10: run(6)", line.run(6), 2);
        due.is("10: run(10000)", line.run(10000), 2);
        due.is("10: run(10000) again", line.run(10000), 2);
        due.is("10: 9999 is back", line.run(9999), -1);
        SortLineEvents idle = Lines.ofBelts(3);
        idle.run(9999);
        due.is("10: time goes on without pieces", idle.run(9998), -1);
        due.is("10: time goes on without pieces", idle.feed(0, 9999, 0, 1.0), false);
        due.is("10: the last tenth", idle.feed(0, 10000, 0, 1.0), true);
        due.is("10: the last tenth", idle.run(10000), 1);
    }

    private static void eventsAnswer() {
        SortLineEvents line = Lines.ofBelts(3);
        line.feed(0, 7, 2, 1.0);
        line.run(20);
        due.is("11: time", line.event(1, 0), 10);
        due.is("11: piece", line.event(1, 1), 0);
        due.is("11: what", line.event(1, 2), 4);
        due.is("11: where", line.event(1, 3), 0);
        int[] wrong = {-1, 4, Integer.MIN_VALUE, Integer.MAX_VALUE};
        for (int what : wrong) {
            due.is("11: what = " + what, line.event(0, what), -1);
        }
        int[] none = {-1, 2, 2000, Integer.MIN_VALUE, Integer.MAX_VALUE};
        for (int k : none) {
            due.is("11: k = " + k, line.event(k, 0), -1);
        }
    }

    private static void onlyTheFirstEventsAreKept() {
        SortLineEvents line = Lines.ofBelts(1);
        line.joinTo(0, 0);
        for (int piece = 0; piece < 60; piece++) {
            line.feed(0, 1, 0, 0.0);
        }
        due.is("11: 33 tenths", line.run(33), 1980);
        due.is("11: 1979", line.event(1979, 1), 59);
        due.is("11: 1980", line.event(1980, 1), -1);
        due.is("10: all are counted", line.run(10000), 600000);
        due.is("11: the last that is kept, time", line.event(1999, 0), 34);
        due.is("11: the last that is kept, piece", line.event(1999, 1), 19);
        due.is("11: the last that is kept, what", line.event(1999, 2), 0);
        due.is("11: 2000", line.event(2000, 0), -1);
        due.is("11: 599999", line.event(599999, 0), -1);
        due.is("13: all inside", line.inside(), 60);
    }

    private static double chance(long seed, long piece, long device) {
        long x = seed * 6364136223846793005L + piece * 1442695040888963407L + device * 2862933555777941757L;
        x ^= x >>> 29;
        x *= -4658895280553007687L;
        x ^= x >>> 32;
        return (x >>> 11) / 9007199254740992.0;
    }

    /** A miss that is the very chance does not miss; the next double above it does. */
    private static void chances() {
        long[] seeds = {0L, 1L, -5L, 123456789012345L, Long.MIN_VALUE, Long.MAX_VALUE};
        for (long seed : seeds) {
            for (int piece = 0; piece < 3; piece++) {
                SortLineEvents line = new SortLineEvents(seed);
                line.belt(1, 1.0);
                line.head(0, 0.0, chance(seed, piece, 0));
                line.head(0, 0.0, Math.nextUp(chance(seed, piece, 1)));
                line.robot(0, 5.0, Math.nextUp(chance(seed, piece, 100)));
                line.robot(0, 5.0, chance(seed, piece, 101));
                for (int before = 0; before < piece; before++) {
                    line.feed(0, 5, 0, 1.0);
                }
                line.feed(0, 2, 1, 1.0);
                line.run(3);
                due.events("chance of seed " + seed, line, 0, "2/" + piece + "/0/0 2/" + piece + "/1/0 2/"
                        + piece + "/2/1 3/" + piece + "/6/1");
            }
        }
    }

    private static void headsThenRobotsThenPickers() {
        SortLineEvents line = Lines.ofBelts(2, 2);
        line.picker(0, 1.0, 0.0);
        line.robot(1, 10.0, 0.0);
        line.robot(0, 1.0, 0.0);
        line.head(0, 1.0, 1.0);
        line.head(1, 0.5, 0.0);
        line.head(0, 1.0, 0.0);
        line.joinTo(0, 1);
        line.feed(0, 1, 1, 1.0);
        line.feed(0, 1, 2, 2.0);
        line.feed(0, 1, 3, 2.0);
        line.feed(0, 1, 0, 1.0);
        line.run(10);
        due.events("order at an end", line, 4, "3/0/2/0 3/0/1/2 3/0/6/1 3/1/2/0 3/1/1/2 3/1/5/0 "
                + "3/2/2/0 3/2/1/2 3/2/0/1 3/3/2/0 3/3/1/2 3/3/0/1 4/2/1/1 4/3/1/1 5/2/6/0 5/3/4/1");
        due.is("taken and out", line.same(), true);
        due.is("nothing inside", line.inside(), 0);
    }

    /** Busy for 1 + 10, 1 + 15, 1 + 20 tenths, and so on. */
    private static void pickersTire() {
        SortLineEvents line = Lines.ofBelts(1);
        line.picker(0, 1.0, 0.5);
        for (int time = 1; time <= 60; time++) {
            line.feed(0, time, 1, 1.0);
        }
        line.run(100);
        StringBuilder taken = new StringBuilder();
        for (int k = 0; line.event(k, 0) >= 0; k++) {
            if (line.event(k, 2) == 5) {
                taken.append(line.event(k, 0)).append(' ');
            }
        }
        due.is("pickers tire", taken.toString(), "2 13 29 50 ");
        due.is("the others went out", line.out(0, 1), 56);
        due.is("pickers tire: same()", line.same(), true);
    }

    /** 10.0 / 3.0 is 3.33.., so a picker is busy for 4 tenths, then for 1 + 5.0 (1.5 times 3.33..). */
    private static void pickersAreFreeAgain() {
        SortLineEvents line = Lines.ofBelts(1);
        line.picker(0, 3.0, 0.5);
        int[] times = {1, 4, 5, 9, 10, 11};
        for (int time : times) {
            line.feed(0, time, 1, 1.0);
        }
        line.run(20);
        due.events("free from then on", line, 0, "1/0/0/0 2/0/5/0 4/1/0/0 5/1/4/0 5/2/0/0 6/2/5/0 "
                + "9/3/0/0 10/3/4/0 10/4/0/0 11/4/4/0 11/5/0/0 12/5/5/0");
        SortLineEvents slow = Lines.ofBelts(1);
        slow.picker(0, 0.125, 10.0);
        int[] slowTimes = {1, 81, 82, 962, 963};
        for (int time : slowTimes) {
            slow.feed(0, time, 4, 1.0);
        }
        slow.run(1000);
        due.events("the slowest, who tires most", slow, 0, "1/0/0/0 2/0/5/0 81/1/0/0 82/1/4/0 82/2/0/0 "
                + "83/2/5/0 962/3/0/0 963/3/4/0 963/4/0/0 964/4/5/0");
    }

    /** 10.0 / 9.5 * 1.9 is less than 2.0 as doubles, 10.0 * 1.9 / 9.5 is not. */
    private static void pickersByTheOrderOfTheirSum() {
        SortLineEvents line = Lines.ofBelts(1);
        line.picker(0, 9.5, 0.3);
        int[] times = {1, 3, 5, 7, 9, 11, 12};
        for (int time : times) {
            line.feed(0, time, 1, 1.0);
        }
        line.run(20);
        due.events("10.0 over the rate first", line, 8, "9/4/0/0 10/4/5/0 11/5/0/0 12/5/4/0 12/6/0/0 13/6/5/0");
    }

    private static void pickersTakeAtTheirBeltAlone() {
        SortLineEvents line = Lines.ofBelts(1, 1);
        line.picker(1, 1.0, 0.0);
        line.feed(0, 1, 1, 1.0);
        line.feed(1, 2, 0, 1.0);
        line.feed(1, 2, 4, 10.0);
        line.run(20);
        due.events("not at belt 0, not kind 0", line, 0, "1/0/0/0 2/0/4/0 2/1/0/1 2/2/0/1 3/1/4/1 3/2/5/0");
    }

    /** A jam at 3 for 4 tenths: entering is refused up to 6, coming on up to 7. */
    private static void aBeltStands() {
        SortLineEvents line = Lines.ofBelts(5, 1);
        line.rule(0, 2.0, 4);
        line.joinTo(1, 0);
        line.feed(0, 1, 0, 2.0);
        line.feed(0, 3, 0, 0.5);
        line.feed(0, 3, 0, 0.0);
        line.feed(0, 6, 0, 0.0);
        line.feed(0, 7, 0, 0.0);
        line.feed(1, 4, 0, 0.0);
        line.feed(1, 6, 0, 0.0);
        line.run(3);
        due.losses("15: will stand", line, "1,1,0,4");
        line.run(30);
        due.events("a belt stands", line, 0, "1/0/0/0 3/1/3/0 3/2/7/0 4/5/0/1 5/5/7/0 6/3/7/0 6/6/0/1 "
                + "7/4/0/0 7/6/0/0 10/0/4/0 12/4/4/0 12/6/4/0");
        due.losses("15: lost", line, "1,3,0,4");
        due.is("14: jam time", line.jam(0, 0), 3);
        due.is("14: jam piece", line.jam(0, 1), 1);
        due.is("14: jam belt", line.jam(0, 2), 0);
        due.is("14: jam others", line.jam(0, 3), 1);
    }

    /** Piece 1 has come to the end of the belt that piece 0 jams: it goes on, but is in the load. */
    private static void aJamInTheTenthOfAnEnd() {
        SortLineEvents line = Lines.ofBelts(3);
        line.rule(0, 2.0, 10);
        line.feed(0, 4, 0, 1.0);
        line.feed(0, 1, 0, 1.5);
        line.run(30);
        due.events("a jam before the end's turn", line, 0, "1/1/0/0 4/0/3/0 4/1/4/0");
        SortLineEvents after = Lines.ofBelts(3);
        after.rule(0, 2.0, 10);
        after.feed(0, 1, 0, 1.5);
        after.feed(0, 4, 0, 1.0);
        after.run(30);
        due.events("no jam behind the end's turn", after, 0, "1/0/0/0 4/0/4/0 4/1/0/0 7/1/4/0");
    }

    /** Added by numbers 0.1 + 0.2 + 0.3 is more than 0.6; added from the last on it is not. */
    private static void loadsAreAddedByNumbers() {
        double[][] orders = {{0.1, 0.2, 0.3}, {0.3, 0.2, 0.1}};
        for (int order = 0; order < 2; order++) {
            for (int last = 0; last < 3; last++) {
                SortLineEvents line = Lines.ofBelts(50);
                line.rule(0, 0.6, 1);
                for (int piece = 0; piece < 3; piece++) {
                    line.feed(0, piece == last ? 9 : 8 - piece, 0, orders[order][piece]);
                }
                line.run(9);
                double sum = 0.0 + orders[order][0] + orders[order][1] + orders[order][2];
                due.is("load by numbers", line.event(2, 2), sum > 0.6 ? 3 : 0);
            }
        }
        due.is("the two sums differ", 0.1 + 0.2 + 0.3 > 0.6 && !(0.3 + 0.2 + 0.1 > 0.6), true);
        SortLineEvents full = Lines.ofBelts(5);
        full.rule(0, 3.0, 1);
        full.feed(0, 1, 0, 1.0);
        full.feed(0, 2, 0, 2.0);
        due.is("a load that is the rule's does not jam", full.run(2), 2);
        due.is("a load that is the rule's does not jam", full.event(1, 2), 0);
    }

    private static void aRingThatJams() {
        SortLineEvents ring = Lines.ofBelts(3);
        ring.rule(0, 2.0, 2);
        ring.joinTo(0, 0);
        ring.feed(0, 1, 0, 1.0);
        ring.feed(0, 1, 0, 1.0);
        ring.run(7);
        due.events("a ring counts a piece once", ring, 0, "1/0/0/0 1/1/0/0 4/0/0/0 4/1/0/0 7/0/0/0 7/1/0/0");
        ring.feed(0, 8, 0, 0.5);
        ring.run(12);
        due.events("all stand with it", ring, 6, "8/2/3/0 12/0/0/0 12/1/0/0");
        SortLineEvents lost = Lines.ofBelts(3);
        lost.rule(0, 2.0, 2);
        lost.joinTo(0, 0);
        lost.feed(0, 4, 0, 1.5);
        lost.feed(0, 1, 0, 1.0);
        lost.run(20);
        due.events("a ring that stands loses it", lost, 0, "1/1/0/0 4/0/3/0 4/1/7/0");
        due.is("14: others", lost.jam(0, 3), 1);
        due.is("same()", lost.same(), true);
        due.is("inside()", lost.inside(), 0);
    }

    private static void stoodAtAHead() {
        SortLineEvents line = Lines.ofBelts(4);
        line.head(0, 0.5, 0.0);
        line.rule(0, 1.0, 3);
        line.feed(0, 1, 0, 1.0);
        line.feed(0, 3, 0, 1.0);
        line.run(20);
        due.events("seen once", line, 0, "1/0/0/0 3/0/1/0 3/1/3/0 8/0/4/0");
    }

    private static void lastTenth() {
        SortLineEvents line = Lines.ofBelts(1000);
        line.rule(0, 0.0, 1000);
        line.feed(0, 9000, 4, 0.0);
        line.feed(0, 10000, 4, 1.0);
        line.run(10000);
        due.events("the last tenth", line, 0, "9000/0/0/0 10000/0/4/0 10000/1/3/0");
        due.losses("15: will stand", line, "1,0,0,1000");
        due.is("9: no time is left", line.feed(0, 10000, 0, 0.0), false);
    }
}
