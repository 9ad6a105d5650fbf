/** New lines for tests. */
final class Lines {
    private Lines() { }

    /** A line of seed 0 with belts of these tenths, each of length 1.0 and joined to nothing. */
    static SortLineEvents ofBelts(int... tenths) {
        SortLineEvents line = new SortLineEvents(0L);
        for (int each : tenths) {
            line.belt(each, 1.0);
        }
        return line;
    }
}
