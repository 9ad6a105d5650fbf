/** Promises 12 to 18: what is counted of the pieces. */
public final class CountsTest {
    private static final Due due = new Due();

    public static void main(String[] args) {
        outs();
        insides();
        jams();
        sixtyJams();
        losses();
        intervals();
        sameAlways();
        kinds();
        due.end();
    }

    private static void outs() {
        SortLineEvents line = new SortLineEvents(0L);
        line.belt(2, 1.0);
        line.belt(2, 1.0);
        line.belt(2, 1.0);
        line.joinTo(1, 2);
        line.robot(0, 10.0, 0.0);
        int[] kinds = {0, 0, 3, 4, 4, 4};
        for (int piece = 0; piece < kinds.length; piece++) {
            line.feed(piece % 2, 5, kinds[piece], 1.0);
        }
        due.is("12: none yet", line.out(0, 0), 0);
        line.run(6);
        due.is("12: none yet", line.out(0, 0), 0);
        line.run(9);
        due.is("12: out(0, 0)", line.out(0, 0), 1);
        due.is("12: taken is not out", line.out(0, 3), 0);
        due.is("12: joined is not out", line.out(1, 0), 0);
        due.is("12: out(2, 0)", line.out(2, 0), 1);
        due.is("12: out(2, 4)", line.out(2, 4), 2);
        int[] wrong = {-1, 5, Integer.MIN_VALUE, Integer.MAX_VALUE};
        for (int kind : wrong) {
            due.is("12: kind " + kind, line.out(0, kind), -1);
        }
        int[] noBelts = {-1, 3, 6, Integer.MIN_VALUE, Integer.MAX_VALUE};
        for (int belt : noBelts) {
            due.is("12: belt " + belt, line.out(belt, 0), -1);
        }
    }

    private static void insides() {
        SortLineEvents line = new SortLineEvents(0L);
        line.belt(3, 1.0);
        line.belt(3, 1.0);
        line.bunker(2.0);
        line.joinTo(0, -2);
        line.feed(0, 1, 0, 2.0);
        line.feed(0, 2, 0, 1.0);
        line.feed(1, 2, 0, 1.0);
        due.is("13: fed is not inside", line.inside(), 0);
        line.run(1);
        due.is("13: one", line.inside(), 1);
        line.run(4);
        due.is("13: in a bunker and on two belts", line.inside(), 3);
        line.run(5);
        due.is("13: one lost, one out", line.inside(), 1);
        line.run(10000);
        due.is("13: for ever", line.inside(), 1);
    }

    private static void jams() {
        SortLineEvents line = new SortLineEvents(0L);
        line.belt(100, 1.0);
        line.belt(100, 1.0);
        line.rule(0, 2.0, 5);
        line.rule(1, 0.0, 2);
        line.feed(0, 1, 0, 1.0);
        line.feed(0, 2, 0, 1.0);
        line.feed(0, 3, 0, 1.0);
        line.feed(1, 3, 0, 0.0);
        line.feed(1, 4, 0, 0.5);
        due.is("14: none yet", line.jam(0, 0), -1);
        line.run(10);
        int[][] want = {{3, 2, 0, 2}, {4, 4, 1, 1}};
        for (int k = 0; k < 2; k++) {
            for (int what = 0; what < 4; what++) {
                due.is("14: jam(" + k + ", " + what + ")", line.jam(k, what), want[k][what]);
            }
            due.is("14: what = 4", line.jam(k, 4), -1);
            due.is("14: what = -1", line.jam(k, -1), -1);
        }
        int[] none = {2, -1, 60, 61, Integer.MIN_VALUE, Integer.MAX_VALUE};
        for (int k : none) {
            due.is("14: k = " + k, line.jam(k, 0), -1);
        }
    }

    private static void sixtyJams() {
        SortLineEvents line = new SortLineEvents(0L);
        line.belt(100, 1.0);
        line.rule(0, 0.0, 1);
        for (int piece = 0; piece < 60; piece++) {
            line.feed(0, 9000 + piece, 0, 10.0);
        }
        line.run(10000);
        due.losses("15: sixty jams", line, "60,0,0,60");
        due.is("14: the last jam", line.jam(59, 0), 9059);
        due.is("14: the last jam", line.jam(59, 1), 59);
        due.is("14: the last jam", line.jam(59, 3), 0);
        due.is("14: no more", line.jam(60, 0), -1);
        SortLineEvents full = new SortLineEvents(0L);
        full.belt(100, 1.0);
        full.rule(0, 0.0, 1);
        for (int piece = 0; piece < 60; piece++) {
            full.feed(0, 1, 0, piece == 59 ? 1.0 : 0.0);
        }
        full.run(1);
        due.is("14: 59 were on it", full.jam(0, 3), 59);
        due.is("14: by piece 59", full.jam(0, 1), 59);
    }

    private static void losses() {
        SortLineEvents line = new SortLineEvents(0L);
        line.belt(1, 1.0);
        line.belt(9, 1.0);
        line.bunker(1.0);
        line.joinTo(0, -2);
        line.rule(1, 1.0, 7);
        line.feed(0, 1, 0, 2.0);
        line.feed(0, 1, 0, 3.0);
        line.feed(0, 1, 0, 1.0);
        line.feed(1, 2, 0, 1.5);
        line.feed(1, 3, 0, 0.0);
        line.feed(1, 4, 0, 0.0);
        line.feed(1, 5, 0, 0.0);
        line.feed(1, 9, 0, 1.5);
        due.losses("15: none yet", line, "0,0,0,0");
        line.run(8);
        due.losses("15: at 8", line, "1,3,2,7");
        line.run(9);
        due.losses("15: at 9", line, "2,3,2,14");
        int[] wrong = {-1, 4, Integer.MIN_VALUE, Integer.MAX_VALUE};
        for (int cause : wrong) {
            due.is("15: cause " + cause, line.lost(cause), -1);
        }
    }

    private static void intervals() {
        SortLineEvents line = new SortLineEvents(0L);
        line.belt(5, 1.0);
        line.belt(5, 1.0);
        int[] times = {1, 4, 4, 20, 23, 100, 101};
        int[] kinds = {1, 1, 2, 1, 2, 2, 2};
        for (int piece = 0; piece < times.length; piece++) {
            line.feed(0, times[piece], kinds[piece], 1.0);
        }
        line.feed(1, 2, 1, 1.0);
        line.feed(1, 2, 1, 1.0);
        line.feed(1, 9, 3, 1.0);
        line.run(6);
        due.is("16: one is no two", line.interval(0, 1, 0), -1.0);
        due.is("16: one is no two", line.interval(0, 1, 1), -1.0);
        line.run(9);
        due.is("16: two", line.interval(0, 1, 0), 0.3);
        due.is("16: two", line.interval(0, 1, 1), 0.3);
        line.run(200);
        due.is("16: least", line.interval(0, 1, 0), 0.3);
        due.is("16: greatest", line.interval(0, 1, 1), 1.6);
        due.is("16: least", line.interval(0, 2, 0), 0.1);
        due.is("16: greatest", line.interval(0, 2, 1), 7.7);
        due.is("16: in one tenth", line.interval(1, 1, 0), 0.0);
        due.is("16: in one tenth", line.interval(1, 1, 1), 0.0);
        due.is("16: one alone", line.interval(1, 3, 0), -1.0);
        due.is("16: of none", line.interval(0, 0, 0), -1.0);
        int[] wrongBelts = {-1, 2, 6, Integer.MIN_VALUE, Integer.MAX_VALUE};
        for (int belt : wrongBelts) {
            due.is("16: belt " + belt, line.interval(belt, 1, 0), -1.0);
        }
        int[] wrongKinds = {-1, 5, Integer.MIN_VALUE, Integer.MAX_VALUE};
        for (int kind : wrongKinds) {
            due.is("16: kind " + kind, line.interval(0, kind, 0), -1.0);
        }
        int[] wrongEnds = {-1, 2, Integer.MIN_VALUE, Integer.MAX_VALUE};
        for (int end : wrongEnds) {
            due.is("16: end " + end, line.interval(0, 1, end), -1.0);
        }
    }

    /** Every way a piece can go, looked at in every tenth. */
    private static void sameAlways() {
        SortLineEvents line = new SortLineEvents(11L);
        line.belt(4, 1.0);
        line.belt(3, 1.0);
        line.bunker(2.0);
        line.joinTo(0, 1);
        line.joinTo(1, -2);
        line.belt(2, 1.0);
        line.rule(1, 3.0, 2);
        line.robot(0, 2.0, 0.5);
        line.picker(0, 2.0, 0.25);
        for (int piece = 0; piece < 60; piece++) {
            line.feed(piece % 5 == 4 ? 2 : piece % 2, 1 + piece / 2, piece % 3, piece % 7 * 0.5);
        }
        for (int time = 0; time <= 60; time++) {
            line.run(time);
            due.is("17: same() at " + time, line.same(), true);
        }
        boolean[] was = new boolean[10];
        for (int k = 0; line.event(k, 2) >= 0; k++) {
            was[line.event(k, 2)] = true;
        }
        for (int what = 3; what < 10; what++) {
            due.is("17: event of what = " + what, was[what], true);
        }
    }

    private static void kinds() {
        SortLineEvents line = new SortLineEvents(0L);
        line.belt(5, 1.0);
        for (int piece = 0; piece < 60; piece++) {
            due.is("18: not yet", line.pieceKind(piece), -1);
            line.feed(0, 9, piece % 5, 1.0);
            due.is("18: pieceKind(" + piece + ")", line.pieceKind(piece), piece % 5);
        }
        line.run(100);
        due.is("18: gone", line.pieceKind(4L), 4);
        long[] none = {60L, -1L, Long.MIN_VALUE, Long.MAX_VALUE, 1L << 32, (1L << 32) + 4};
        for (long number : none) {
            due.is("18: pieceKind(" + number + ")", line.pieceKind(number), -1);
        }
    }
}
