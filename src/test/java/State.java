import java.util.ArrayList;
import java.util.List;

/** A line in some state, told by the calls that lead to it; and what can be asked of it, now and later on. */
final class State {
    private static final int MOST_CALLS = 512;
    private static final long SEED = 20261116L;

    final String name;
    final int now;
    final int belts;
    final int bunkers;
    private final List<Call> calls;
    private final List<Prospect> prospects = new ArrayList<>();

    /** Calls that go on from a state, questions behind them, and the answers to all of these. */
    private record Prospect(List<Call> calls, List<Call> questions, List<Object> answers) { }

    /** The state that the calls lead to: a line of so many belts and bunkers, at the time now. */
    State(String name, int now, int belts, int bunkers, List<Call> calls) {
        this.name = name;
        this.now = now;
        this.belts = belts;
        this.bunkers = bunkers;
        this.calls = calls;
        goesOn(List.of(), now);
    }

    /** Adds calls up to a time, which bring to light what no question tells, such as how many heads there are. */
    State goesOn(List<Call> more, int time) {
        List<Call> questions = questionsBehind(more, time);
        prospects.add(new Prospect(more, questions, answersBehind(List.of(), more, questions)));
        return this;
    }

    void accepts(Due due, Call call) {
        Object answer = answer(call);
        due.is(name + " accepts " + call.name() + ", answered " + answer, !Call.isRefusal(answer), true);
    }

    /** The call is refused, and changes nothing. */
    void refuses(Due due, Call call) {
        Object answer = answer(call);
        due.is(name + " refuses " + call.name() + ", answered " + answer, Call.isRefusal(answer), true);
        isUnchangedBy(due, call);
    }

    /** All that can be asked behind the call, now and later on, is answered as it is without it. */
    void isUnchangedBy(Due due, Call call) {
        for (Prospect prospect : prospects) {
            List<Object> got = answersBehind(List.of(call), prospect.calls, prospect.questions);
            if (!got.equals(prospect.answers)) {
                String when = name + " behind " + call.name() + " and " + prospect.calls.size() + " calls";
                due.is(when, got.toString(), prospect.answers.toString());
            }
        }
    }

    /** The answer that the call gets in this state. */
    Object answer(Call call) {
        return call.on().apply(line());
    }

    private SortLineEvents line() {
        SortLineEvents line = new SortLineEvents(SEED);
        make(calls, line);
        return line;
    }

    private static void make(List<Call> calls, SortLineEvents line) {
        for (Call call : calls) {
            call.on().apply(line);
        }
    }

    /** No object is used for more than 512 calls: the questions go to as many twins as they need. */
    private List<Object> answersBehind(List<Call> between, List<Call> more, List<Call> asked) {
        List<Object> got = new ArrayList<>();
        int each = MOST_CALLS - calls.size() - 1 - more.size();
        for (int from = 0; from < asked.size(); from += each) {
            SortLineEvents line = line();
            make(between, line);
            ask(more, line, got);
            ask(asked.subList(from, Math.min(asked.size(), from + each)), line, got);
        }
        return got;
    }

    private static void ask(List<Call> asked, SortLineEvents line, List<Object> got) {
        for (Call call : asked) {
            got.add(call.on().apply(line));
        }
    }

    private List<Call> questionsBehind(List<Call> more, int time) {
        SortLineEvents line = line();
        make(more, line);
        List<Call> asked = new ArrayList<>();
        // To run up to now changes nothing, and tells that it is now, and how many events there were.
        asked.add(Call.run(time));
        asked.add(Call.inside());
        asked.add(Call.same());
        for (int cause = 0; cause < 4; cause++) {
            asked.add(Call.lost(cause));
        }
        for (int belt = 0; belt < 6; belt++) {
            for (int kind = 0; kind < 5; kind++) {
                asked.add(Call.out(belt, kind));
                asked.add(Call.interval(belt, kind, 0));
                asked.add(Call.interval(belt, kind, 1));
            }
        }
        for (int piece = 0; piece <= 60; piece++) {
            asked.add(Call.pieceKind(piece));
        }
        int events = Math.min(2000, line.run(time));
        int jams = (int) line.lost(0);
        for (int what = 0; what < 4; what++) {
            for (int k = 0; k <= jams; k++) {
                asked.add(Call.jam(k, what));
            }
            for (int k = 0; k <= events; k++) {
                asked.add(Call.event(k, what));
            }
        }
        return asked;
    }
}
