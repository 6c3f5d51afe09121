/** A run of calls that goes ahead, each time on a new object, of a call that is tried. */
final class Given {
    private final Check check;
    private final String[] run;

    Given(Check check, String... run) {
        this.check = check;
        this.run = run;
    }

    /** The given run with some more calls. */
    Given then(String... more) {
        String[] all = new String[run.length + more.length];
        System.arraycopy(run, 0, all, 0, run.length);
        System.arraycopy(more, 0, all, run.length, more.length);
        return new Given(check, all);
    }

    private String named(String call) {
        return call + " (given " + String.join(" | ", run) + ")";
    }

    Given answers(String call, long want) {
        check.due(named(call), new Run(run).call(call), want);
        return this;
    }

    /** The answers for "?" = 0, 1, 2 and so on. */
    Given row(String call, long... wants) {
        for (int i = 0; i < wants.length; i++) {
            answers(call.replace("?", Integer.toString(i)), wants[i]);
        }
        return this;
    }

    /** What is refused, or found, changes nothing but status(), and that only by what is found. */
    Given refuses(String call, long want) {
        Run tried = new Run(run);
        Run twin = new Run(run);
        check.due(named(call), tried.call(call), want);
        boolean found = want <= Check.NULL && want >= Check.STORE;
        check.due("status behind " + named(call), tried.call("status"), found ? -1000010 - want : twin.call("status"));
        check.due("nothing else changes by " + named(call), tried.seen().equals(twin.seen()) ? 1 : 0, 1);
        return this;
    }

    /** What only asks changes nothing at all, unless the call is one with a row. */
    Given changesNothing(String call) {
        Run tried = new Run(run);
        Run twin = new Run(run);
        tried.call(call);
        check.due("nothing changes by " + named(call), tried.seen().equals(twin.seen()) ? 1 : 0, 1);
        return this;
    }

    /** "?" in the call goes from least, which has this answer, to most, which has that; all beyond are BAD. */
    Given ends(String call, int least, long first, int most, long last) {
        answers(call.replace("?", Integer.toString(least)), first);
        answers(call.replace("?", Integer.toString(most)), last);
        return badOutside(call, least, most);
    }

    Given badOutside(String call, int least, int most) {
        refuses(call.replace("?", Integer.toString(least - 1)), Check.BAD);
        refuses(call.replace("?", Integer.toString(most + 1)), Check.BAD);
        refuses(call.replace("?", Integer.toString(Integer.MIN_VALUE)), Check.BAD);
        return refuses(call.replace("?", Integer.toString(Integer.MAX_VALUE)), Check.BAD);
    }
}
