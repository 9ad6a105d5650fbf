import java.util.List;
import java.util.function.DoubleFunction;
import java.util.function.IntFunction;

/** Every bound that the document tells for an argument: at it, just inside and just outside; and every "at most". */
public final class BoundsTest {
    private static final int NOW = 40;
    private static final double LENGTH = 2.5;
    private static final Due due = new Due();
    private static final State open = state("an open line", List.of(
            Call.belt(10, LENGTH), Call.belt(10, 0.5), Call.belt(10, 1000.0), Call.bunker(1.0), Call.bunker(1.0),
            Call.run(NOW)));
    private static final State fed = state("a line with a piece", List.of(
            Call.belt(10, LENGTH), Call.belt(10, 0.5), Call.belt(10, 1000.0), Call.bunker(1.0), Call.bunker(1.0),
            Call.run(NOW), Call.feed(0, NOW + 1, 2, 1.0)));

    public static void main(String[] args) {
        telling();
        feedingAndRunning();
        questions();
        mostOfEach();
        mostPieces();
        refusedCallsUseNoNumbers();
        due.end();
    }

    private static State state(String name, List<Call> calls) {
        List<Call> fed = List.of(Call.feed(0, NOW + 2, 1, 1.0), Call.feed(1, NOW + 2, 1, 1.0), Call.run(NOW + 30));
        List<Call> told = List.of(Call.belt(1, 1.0), Call.head(0, 0.0, 0.5), Call.bunker(1.0),
                Call.picker(0, 1.0, 0.0), Call.robot(0, 1.0, 0.0), Call.feed(0, NOW + 2, 1, 1.0), Call.run(NOW + 30));
        return new State(name, NOW, 3, 2, calls).goesOn(fed, NOW + 30).goesOn(told, NOW + 30);
    }

    private static void telling() {
        ints(open, 1, 1000, tenths -> Call.belt(tenths, 1.0));
        doubles(open, 0.5, 1000.0, length -> Call.belt(1, length));
        ints(open, 0, 2, belt -> Call.head(belt, 0.5, 0.5));
        doubles(open, 0.0, LENGTH, at -> Call.head(0, at, 0.5));
        doubles(open, 0.0, 0.5, at -> Call.head(1, at, 0.5));
        doubles(open, 0.0, 1000.0, at -> Call.head(2, at, 0.5));
        doubles(open, 0.0, 1.0, miss -> Call.head(0, 0.5, miss));
        doubles(open, 0.0, 10000.0, room -> Call.bunker(room));
        ints(open, 0, 2, belt -> Call.joinTo(belt, 1));
        ints(open, -3, 2, to -> Call.joinTo(1, to));
        ints(open, 0, 2, belt -> Call.rule(belt, 1.0, 1));
        doubles(open, 0.0, 10000.0, load -> Call.rule(1, load, 1));
        ints(open, 1, 1000, stands -> Call.rule(1, 1.0, stands));
        ints(open, 0, 2, belt -> Call.picker(belt, 1.0, 1.0));
        doubles(open, 0.125, 100.0, rate -> Call.picker(1, rate, 1.0));
        doubles(open, 0.0, 10.0, tires -> Call.picker(1, 1.0, tires));
        ints(open, 0, 2, belt -> Call.robot(belt, 1.0, 1.0));
        doubles(open, 0.0, 10.0, reach -> Call.robot(1, reach, 1.0));
        doubles(open, 0.0, 1.0, miss -> Call.robot(1, 1.0, miss));
    }

    /** In an open line, and in one that a piece has closed: pieces and time go on there. */
    private static void feedingAndRunning() {
        for (State state : List.of(open, fed)) {
            ints(state, 0, 2, belt -> Call.feed(belt, NOW + 1, 1, 1.0));
            ints(state, NOW + 1, 10000, time -> Call.feed(0, time, 1, 1.0));
            ints(state, 0, 4, kind -> Call.feed(0, NOW + 1, kind, 1.0));
            doubles(state, 0.0, 10.0, size -> Call.feed(0, NOW + 1, 1, size));
            ints(state, NOW, 10000, time -> Call.run(time));
        }
    }

    private static void questions() {
        ints(open, 0, 2, belt -> Call.out(belt, 1));
        ints(open, 0, 4, kind -> Call.out(1, kind));
        ints(open, 0, 3, cause -> Call.lost(cause));
        ints(fed, 0, 0, number -> Call.pieceKind(number));
        long[] wide = {1L << 32, -(1L << 32), (1L << 32) - 1, Long.MIN_VALUE, Long.MAX_VALUE};
        for (long number : wide) {
            fed.refuses(due, Call.pieceKind(number));
        }
    }

    private static void ints(State state, int least, int greatest, IntFunction<Call> call) {
        int inside = Math.min(least + 1, greatest);
        int insideToo = Math.max(greatest - 1, least);
        for (int value : new int[] {least, inside, insideToo, greatest}) {
            state.accepts(due, call.apply(value));
        }
        for (int value : new int[] {least - 1, greatest + 1, Integer.MIN_VALUE, Integer.MAX_VALUE}) {
            state.refuses(due, call.apply(value));
        }
    }

    private static void doubles(State state, double least, double greatest, DoubleFunction<Call> call) {
        for (double value : new double[] {least, Math.nextUp(least), Math.nextDown(greatest), greatest}) {
            state.accepts(due, call.apply(value));
        }
        double[] outside = {Math.nextDown(least), Math.nextUp(greatest), -Double.MAX_VALUE, Double.MAX_VALUE,
            Double.NEGATIVE_INFINITY, Double.POSITIVE_INFINITY, Double.NaN};
        for (double value : outside) {
            state.refuses(due, call.apply(value));
        }
        if (least == 0.0) {
            state.accepts(due, call.apply(-0.0));
        }
    }

    private static void mostOfEach() {
        SortLineEvents line = new SortLineEvents(0L);
        for (int number = 0; number < 6; number++) {
            due.is("2: numbered from 0 on", line.belt(9, 1.0), number);
        }
        for (int number = 0; number < 8; number++) {
            due.is("3: numbered from 0 on", line.head(number % 6, 0.5, 0.5), number);
        }
        for (int number = 0; number < 4; number++) {
            due.is("4: numbered from 0 on", line.bunker(1.0), number);
            due.is("7: numbered from 0 on", line.picker(5 - number, 1.0, 1.0), number);
            due.is("8: numbered from 0 on", line.robot(number, 1.0, 1.0), number);
        }
        for (int again = 0; again < 3; again++) {
            due.is("2: there are 6", line.belt(9, 1.0), -1);
            due.is("3: there are 8", line.head(0, 0.5, 0.5), -1);
            due.is("4: there are 4", line.bunker(1.0), -1);
            due.is("7: there are 4", line.picker(0, 1.0, 1.0), -1);
            due.is("8: there are 4", line.robot(0, 1.0, 1.0), -1);
        }
        for (int belt = 0; belt < 6; belt++) {
            for (int to = -5; to < 6; to++) {
                due.is("5: joinTo(" + belt + ", " + to + ")", line.joinTo(belt, to), true);
            }
            due.is("5: there is no bunker 4", line.joinTo(belt, -6), false);
            due.is("5: there is no belt 6", line.joinTo(belt, 6), false);
            due.is("6: rule of belt " + belt, line.rule(belt, 1.0, 1), true);
            due.is("12: out of belt " + belt, line.out(belt, 4), 0);
        }
        due.is("6: there is no belt 6", line.rule(6, 1.0, 1), false);
        due.is("12: there is no belt 6", line.out(6, 4), -1);
    }

    private static void mostPieces() {
        SortLineEvents line = new SortLineEvents(0L);
        line.belt(1, 1.0);
        for (int piece = 0; piece < 60; piece++) {
            due.is("18: not yet " + piece, line.pieceKind(piece), -1);
            due.is("9: piece " + piece, line.feed(0, 1 + piece, piece % 5, 0.0), true);
            due.is("18: kind of " + piece, line.pieceKind(piece), piece % 5);
        }
        due.is("9: there are 60", line.feed(0, 61, 0, 0.0), false);
        due.is("18: no piece 60", line.pieceKind(60), -1);
        due.is("10: two events each", line.run(100), 120);
        due.is("9: there are 60 still, as all are gone", line.feed(0, 101, 0, 0.0), false);
        due.is("18: piece 59 is known still", line.pieceKind(59), 4);
        due.is("11: its last event", line.event(119, 1), 59);
    }

    private static void refusedCallsUseNoNumbers() {
        SortLineEvents line = new SortLineEvents(0L);
        for (int number = 0; number < 4; number++) {
            line.belt(0, 1.0);
            due.is("2: behind a refused one", line.belt(1, 1.0), number);
            line.head(0, 1.5, 0.0);
            due.is("3: behind a refused one", line.head(0, 1.0, 0.0), number);
            line.bunker(-1.0);
            due.is("4: behind a refused one", line.bunker(1.0), number);
            line.picker(0, 0.0, 0.0);
            due.is("7: behind a refused one", line.picker(0, 1.0, 0.0), number);
            line.robot(0, 1.0, 1.5);
            due.is("8: behind a refused one", line.robot(0, 1.0, 1.0), number);
        }
        for (int piece = 0; piece < 60; piece++) {
            line.feed(0, 0, 1, 1.0);
            due.is("9: behind a refused one", line.feed(3, 5, piece % 2, 1.0), true);
            due.is("18: behind a refused one", line.pieceKind(piece), piece % 2);
        }
    }
}
