/**
 * The edges of what pieces come to, as "Terms" tells them: each at the edge itself and on both sides of it, in
 * places, times, sizes and counts.
 */
public final class EdgesTest {
    private static final int NO_LIMIT = 10000;
    private static final Due due = new Due();

    public static void main(String[] args) {
        tenthsOfBelts();
        placesOfHeads();
        leastAndGreatestChances();
        missesAtAChance();
        loads();
        loadsOfJoinedPieces();
        standing();
        standingAgain();
        jamsByTurns();
        reaches();
        kindsThatAreTaken();
        pickersFreeAgain();
        rooms();
        joinsToEach();
        twoObjects();
        due.end();
    }

    private static void tenthsOfBelts() {
        for (int tenths : new int[] {1, 2, 999, 1000}) {
            SortLineEvents line = Lines.ofBelts(tenths);
            line.feed(0, 7, 0, 1.0);
            due.is("2: before its time", line.run(6), 0);
            due.is("2: before its time", line.inside(), 0);
            due.is("2: at its time", line.run(7), 1);
            due.is("2: on a belt of " + tenths, line.run(7 + tenths - 1), 1);
            due.is("2: on a belt of " + tenths, line.inside(), 1);
            due.is("2: at the end of a belt of " + tenths, line.run(7 + tenths), 2);
            due.is("2: at the end of a belt of " + tenths, line.inside(), 0);
            due.is("12: out of a belt of " + tenths, line.out(0, 0), 1);
            due.is("2: behind it", line.run(NO_LIMIT), 2);
        }
    }

    private static void placesOfHeads() {
        double[] lengths = {0.5, 1.0, 1000.0};
        for (double length : lengths) {
            double quarter = length / 4.0;
            double[] at = {0.0, Double.MIN_VALUE, Math.nextDown(quarter), quarter, Math.nextUp(quarter),
                3.0 * quarter, Math.nextDown(length), length};
            int[] places = {0, 0, 0, 1, 1, 3, 3, 4};
            for (int i = 0; i < at.length; i++) {
                SortLineEvents line = new SortLineEvents(0L);
                line.belt(4, length);
                due.is("3: head at " + at[i], line.head(0, at[i], 0.0), 0);
                line.feed(0, 10, 0, 1.0);
                line.run(20);
                String seen = 10 + places[i] + "/0/1/0";
                due.events("3: place of " + at[i] + " of " + length, line, 0, "10/0/0/0 " + seen + " 14/0/4/0");
            }
        }
    }

    /** The inverse of an odd number, modulo 2 to the 64th. */
    private static long inverse(long odd) {
        long inverse = odd;
        for (int step = 0; step < 6; step++) {
            inverse *= 2 - odd * inverse;
        }
        return inverse;
    }

    /** A seed by which piece 0 has this number, of 53 bits, over 2 to the 53rd as its chance at head 0. */
    private static long seedOf(long chance) {
        long x = chance << 11;
        x ^= x >>> 32;
        x *= inverse(-4658895280553007687L);
        x ^= x >>> 29 ^ x >>> 58;
        return x * inverse(6364136223846793005L);
    }

    private static void leastAndGreatestChances() {
        long[] chances = {0L, 1L, 1L << 52, (1L << 52) - 1, (1L << 53) - 2, (1L << 53) - 1};
        for (long number : chances) {
            double chance = number / 9007199254740992.0;
            isMissed(seedOf(number), 0.0, false);
            isMissed(seedOf(number), chance, false);
            isMissed(seedOf(number), Math.nextUp(chance), true);
            if (number > 0) {
                isMissed(seedOf(number), Math.nextDown(chance), false);
            }
            isMissed(seedOf(number), 1.0, true);
        }
    }

    private static void isMissed(long seed, double miss, boolean want) {
        SortLineEvents line = new SortLineEvents(seed);
        line.belt(1, 1.0);
        line.head(0, 0.0, miss);
        line.feed(0, 1, 0, 1.0);
        line.run(1);
        due.is("seed " + seed + ", miss " + miss, line.event(1, 2), want ? 2 : 1);
    }

    /** The last piece at the last head and the last robot, which misses at 1.0 and not at 0.0. */
    private static void missesAtAChance() {
        for (int miss = 0; miss < 2; miss++) {
            SortLineEvents line = Lines.ofBelts(1);
            for (int device = 0; device < 8; device++) {
                line.head(0, 0.0, miss);
            }
            for (int device = 0; device < 4; device++) {
                line.robot(0, 10.0, device < 3 ? 1.0 : miss);
            }
            for (int piece = 0; piece < 60; piece++) {
                line.feed(0, piece < 59 ? 100 : 41, 1, 10.0);
            }
            line.run(42);
            StringBuilder want = new StringBuilder("41/59/0/0");
            for (int head = 0; head < 8; head++) {
                want.append(" 41/59/").append(miss == 0 ? 1 : 2).append('/').append(head);
            }
            want.append(miss == 0 ? " 42/59/6/3" : " 42/59/4/0");
            due.events("miss of " + miss, line, 0, want.toString());
        }
    }

    private static void loads() {
        double[] edges = {0.0, 1.0, 9.5};
        for (double load : edges) {
            jams(load, load, false);
            jams(load, Math.nextUp(load), true);
            jams(load, load == 0.0 ? 0.0 : Math.nextDown(load), false);
        }
        jams(Math.nextDown(10.0), 10.0, true);
        jams(10.0, 10.0, false);
        SortLineEvents line = Lines.ofBelts(100);
        line.rule(0, 600.0, 1);
        for (int piece = 0; piece < 60; piece++) {
            line.feed(0, 1, 0, 10.0);
        }
        line.run(1);
        due.losses("6: sixty of 10.0 are 600.0", line, "0,0,0,0");
        SortLineEvents less = Lines.ofBelts(100);
        less.rule(0, Math.nextDown(600.0), 1);
        for (int piece = 0; piece < 60; piece++) {
            less.feed(0, 1, 0, 10.0);
        }
        less.run(1);
        due.losses("6: sixty of 10.0 are more", less, "1,0,0,1");
        due.is("14: the last piece", less.jam(0, 1), 59);
        due.is("14: 59 without it", less.jam(0, 3), 59);
    }

    private static void jams(double load, double size, boolean want) {
        SortLineEvents line = Lines.ofBelts(100);
        line.rule(0, load, 5);
        line.feed(0, 3, 0, size);
        line.run(3);
        due.events("6: size " + size + " at a load of " + load, line, 0, want ? "3/0/3/0" : "3/0/0/0");
        due.losses("15: by a load", line, want ? "1,0,0,5" : "0,0,0,0");
        due.is("13: by a load", line.inside(), want ? 0 : 1);
        due.is("14: by a load", line.jam(0, 3), want ? 0 : -1);
        due.is("17: by a load", line.same(), true);
    }

    /** A piece from another belt jams one as a fed piece does, above its load and not at it. */
    private static void loadsOfJoinedPieces() {
        double[] sizes = {2.0, Math.nextUp(2.0)};
        for (double size : sizes) {
            SortLineEvents line = Lines.ofBelts(2, 50);
            line.joinTo(0, 1);
            line.rule(1, 2.0, 3);
            line.feed(0, 3, 0, size);
            line.feed(1, 4, 0, 0.0);
            line.run(5);
            due.events("6: joined, of " + size, line, 2, size > 2.0 ? "5/0/3/1" : "5/0/0/1");
            due.is("14: joined, of " + size, line.jam(0, 2), size > 2.0 ? 1 : -1);
            due.is("14: joined, of " + size, line.jam(0, 3), size > 2.0 ? 1 : -1);
        }
    }

    /** A jam at 3: entering is refused up to 3 + stands - 1, coming on up to 3 + stands. */
    private static void standing() {
        for (int stands : new int[] {1, 2, 999, 1000}) {
            SortLineEvents line = Lines.ofBelts(5);
            line.head(0, 0.4, 0.0);
            line.head(0, 0.6, 0.0);
            line.rule(0, 1.0, stands);
            line.feed(0, 1, 0, 1.0);
            line.feed(0, 3, 0, 0.0);
            line.feed(0, 3, 0, 0.5);
            line.feed(0, 3, 0, 0.0);
            line.feed(0, 3 + stands - 1, 0, 0.0);
            line.feed(0, 3 + stands, 0, 0.0);
            line.run(3);
            due.events("a jam", line, 0, "1/0/0/0 3/0/1/0 3/1/0/0 3/2/3/0 3/3/7/0"
                    + (stands == 1 ? " 3/4/7/0" : ""));
            due.losses("15: a jam", line, "1," + (stands == 1 ? 2 : 1) + ",0," + stands);
            int end = 3 + stands;
            line.run(end - 1);
            due.losses("15: the last that is lost", line, "1,2,0," + stands);
            line.run(end);
            due.losses("15: the first that is not", line, "1,2,0," + stands);
            due.events("enters again, nothing came on", line, 6, end + "/5/0/0");
            line.run(end + 1);
            due.events("comes on again", line, 7, end + 1 + "/0/1/1");
            line.run(end + 2);
            due.events("each by one place", line, 8, end + 2 + "/1/1/0 " + (end + 2) + "/5/1/0");
            line.run(end + 3);
            due.events("to the end", line, 10, end + 3 + "/0/4/0 " + (end + 3) + "/1/1/1 " + (end + 3) + "/5/1/1");
        }
    }

    /** The second jam comes as soon as the first lets pieces enter: what is on the belt stands on. */
    private static void standingAgain() {
        SortLineEvents line = Lines.ofBelts(3);
        line.rule(0, 1.0, 4);
        line.feed(0, 1, 0, 1.0);
        line.feed(0, 2, 0, 1.0);
        line.feed(0, 6, 0, 1.0);
        line.feed(0, 9, 0, 0.0);
        line.feed(0, 10, 0, 0.0);
        line.run(9);
        due.losses("15: two jams", line, "2,1,0,8");
        line.run(30);
        due.events("two jams", line, 0, "1/0/0/0 2/1/3/0 6/2/3/0 9/3/7/0 10/4/0/0 12/0/4/0 13/4/4/0");
        due.is("14: others of the second", line.jam(1, 3), 1);
        due.is("14: no third", line.jam(2, 0), -1);
    }

    /** In one tenth: a lower number enters before the jam, and leaves before it; a higher one is behind it. */
    private static void jamsByTurns() {
        SortLineEvents line = Lines.ofBelts(2, 2);
        line.rule(0, 1.0, 1);
        line.feed(0, 1, 0, 1.0);
        line.feed(0, 3, 0, 1.0);
        line.feed(0, 3, 0, 0.5);
        line.feed(1, 3, 0, 9.0);
        line.feed(0, 3, 0, 0.0);
        line.run(3);
        due.events("turns", line, 0, "1/0/0/0 3/0/4/0 3/1/0/0 3/2/3/0 3/3/0/1 3/4/7/0");
    }

    private static void reaches() {
        double[] reaches = {0.0, 1.0, 10.0};
        for (double reach : reaches) {
            SortLineEvents line = Lines.ofBelts(1);
            line.robot(0, reach, 0.0);
            boolean above = line.feed(0, 1, 1, Math.nextUp(reach));
            due.is("9: a size above " + reach, above, reach < 10.0);
            line.feed(0, 2, 1, reach);
            line.feed(0, 3, 1, reach == 0.0 ? 0.0 : Math.nextDown(reach));
            line.run(9);
            due.is("8: too big to reach", line.out(0, 1), above ? 1 : 0);
            due.is("8: just small enough", line.event(above ? 3 : 1, 2), 6);
            due.is("8: small enough", line.event(above ? 5 : 3, 2), 6);
            due.is("17: taken", line.same(), true);
            due.is("13: taken is not inside", line.inside(), 0);
        }
    }

    private static void kindsThatAreTaken() {
        for (int kind = 0; kind < 5; kind++) {
            SortLineEvents byRobot = Lines.ofBelts(1);
            byRobot.robot(0, 10.0, 0.0);
            byRobot.feed(0, 1, kind, 0.0);
            byRobot.run(2);
            due.is("8: kind " + kind, byRobot.event(1, 2), kind == 0 ? 4 : 6);
            due.is("12: kind " + kind, byRobot.out(0, kind), kind == 0 ? 1 : 0);
            SortLineEvents byHand = Lines.ofBelts(1);
            byHand.picker(0, 1.0, 0.0);
            byHand.feed(0, 1, kind, 10.0);
            byHand.run(2);
            due.is("7: kind " + kind, byHand.event(1, 2), kind == 0 ? 4 : 5);
            due.is("12: kind " + kind, byHand.out(0, kind), kind == 0 ? 1 : 0);
        }
    }

    private static void pickersFreeAgain() {
        double[] rates = {100.0, Math.nextUp(10.0), 10.0, Math.nextDown(10.0), 3.0, 1.0, Math.nextUp(0.125), 0.125};
        int[] busy = {1, 1, 2, 2, 4, 11, 80, 81};
        for (int i = 0; i < rates.length; i++) {
            isBusy(rates[i], 0.0, 1, busy[i]);
            isBusy(rates[i], 10.0, 1, busy[i]);
        }
        isBusy(100.0, 10.0, 2, 2);
        isBusy(1.0, 0.5, 2, 16);
        isBusy(1.0, 0.5, 3, 21);
        isBusy(10.0, 1.0, 4, 5);
        isBusy(0.125, 10.0, 2, 881);
        isBusy(0.125, 10.0, 3, 1681);
    }

    /** How long a picker is busy with the piece that is its n-th: one tenth less does not do for the next. */
    private static void isBusy(double rate, double tires, int nth, int busy) {
        SortLineEvents line = Lines.ofBelts(1);
        line.picker(0, rate, tires);
        for (int before = 0; before < nth; before++) {
            line.feed(0, 1 + 3000 * before, 1, 0.0);
        }
        int taken = 2 + 3000 * (nth - 1);
        line.feed(0, taken - 1, 2, 0.0);
        line.feed(0, taken + busy - 2, 3, 0.0);
        line.feed(0, taken + busy - 1, 4, 0.0);
        line.run(NO_LIMIT);
        String who = "7: rate " + rate + ", tires " + tires + ", piece " + nth;
        due.is(who + " is taken", line.out(0, 1), 0);
        due.is(who + ", in the same tenth", line.out(0, 2), 1);
        due.is(who + ", busy still", line.out(0, 3), 1);
        due.is(who + ", free again", line.out(0, 4), 0);
    }

    private static void rooms() {
        double[] edges = {0.0, 2.0, 10.0};
        for (double room : edges) {
            SortLineEvents line = Lines.ofBelts(1);
            line.bunker(room);
            line.joinTo(0, -2);
            boolean above = line.feed(0, 1, 1, Math.nextUp(room));
            line.feed(0, 2, 1, room);
            line.feed(0, 3, 1, 0.0);
            line.feed(0, 4, 1, 0.5);
            line.run(9);
            due.losses("15: at a room of " + room, line, "0,0," + (above ? 2 : 1) + ",0");
            due.is("13: in a room of " + room, line.inside(), 2);
            due.is("17: in a room of " + room, line.same(), true);
            due.is("4: the full one takes what has no size", line.event(above ? 5 : 3, 2), 9);
            due.is("4: and nothing else", line.event(above ? 7 : 5, 2), 8);
        }
        SortLineEvents just = Lines.ofBelts(1);
        just.bunker(Math.nextDown(2.0));
        just.joinTo(0, -2);
        just.feed(0, 1, 0, 2.0);
        just.feed(0, 2, 0, Math.nextDown(2.0));
        just.run(9);
        due.events("4: just too small", just, 0, "1/0/0/0 2/0/8/0 2/1/0/0 3/1/9/0");
    }

    private static void joinsToEach() {
        for (int to = -5; to < 6; to++) {
            SortLineEvents line = Lines.ofBelts(1, 1, 1, 1, 1, 1);
            for (int bunker = 0; bunker < 4; bunker++) {
                line.bunker(1.0);
            }
            due.is("5: to " + to, line.joinTo(2, to), true);
            line.feed(2, 1, 0, 1.0);
            line.run(2);
            due.events("5: to " + to, line, 1, "2/0/" + (to >= 0 ? "0/" + to : to == -1 ? "4/2" : "9/" + (-2 - to)));
            due.is("13: to " + to, line.inside(), to == -1 ? 0 : 1);
        }
    }

    /** What one object is told, another does not know. */
    private static void twoObjects() {
        SortLineEvents one = Lines.ofBelts(1);
        SortLineEvents other = new SortLineEvents(0L);
        one.bunker(1.0);
        one.feed(0, 1, 3, 1.0);
        one.run(50);
        due.is("1: no belt", other.out(0, 0), -1);
        due.is("1: no piece", other.pieceKind(0), -1);
        due.is("1: no event", other.event(0, 0), -1);
        due.is("1: open", other.belt(7, 1.0), 0);
        due.is("1: no bunker", other.joinTo(0, -2), false);
        due.is("1: at time 0", other.run(0), 0);
        due.is("12: of its own", one.out(0, 3), 1);
        due.is("12: of its own", other.out(0, 3), 0);
    }
}
