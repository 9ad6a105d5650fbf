/** Counts and prints the answers that are not the ones due. */
final class Due {
    private int wrong;

    void is(String call, long got, long want) {
        if (got != want) {
            complain(call, String.valueOf(got), String.valueOf(want));
        }
    }

    void is(String call, double got, double want) {
        if (Double.compare(got, want) != 0) {
            complain(call, String.valueOf(got), String.valueOf(want));
        }
    }

    void is(String call, boolean got, boolean want) {
        if (got != want) {
            complain(call, String.valueOf(got), String.valueOf(want));
        }
    }

    void is(String call, String got, String want) {
        if (!got.equals(want)) {
            complain(call, got, want);
        }
    }

    void is(String call, Object got, Object want) {
        is(call, String.valueOf(got), String.valueOf(want));
    }

    /** All events from number 'from' on, each as time/piece/what/where. */
    void events(String run, SortLineEvents line, int from, String want) {
        StringBuilder got = new StringBuilder();
        for (int k = from; line.event(k, 0) != SortLineEvents.NONE; k++) {
            got.append(got.length() == 0 ? "" : " ").append(line.event(k, 0)).append('/')
                    .append(line.event(k, 1)).append('/').append(line.event(k, 2)).append('/')
                    .append(line.event(k, 3));
        }
        is(run, got.toString(), want);
    }

    /** The answers for causes 0 to 3, with commas. */
    void losses(String run, SortLineEvents line, String want) {
        is(run, line.lost(0) + "," + line.lost(1) + "," + line.lost(2) + "," + line.lost(3), want);
    }

    void end() {
        if (wrong != 0) {
            System.out.println(wrong + " answers are not as due");
            System.exit(1);
        }
        System.out.println("all answers are as due");
    }

    private void complain(String call, String got, String want) {
        wrong++;
        System.out.println(call + " answered " + got + ", due is " + want);
    }
}
