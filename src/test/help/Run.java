import java.util.ArrayList;
import java.util.List;

/** A new object and the calls that were made on it. */
final class Run {
    /** What later calls answer is free, so a test that makes one proves nothing. */
    static final int CALLS = 512;

    private final ModeKeeper x = new ModeKeeper();
    private final List<String> said = new ArrayList<>();

    Run(Call... calls) {
        for (Call call : calls) {
            answer(call);
        }
    }

    Run(List<Call> calls) {
        this(calls.toArray(new Call[0]));
    }

    int answer(Call call) {
        if (said.size() == CALLS) {
            throw new IllegalStateException("the test makes more than " + CALLS + " calls on one object");
        }
        said.add(call.said());
        return call.made().applyAsInt(x);
    }

    /** Makes the call and reports an answer that is not the one wanted. */
    void gives(int want, Call call) {
        int got = answer(call);
        if (got != want) {
            Report.wrong(call.said() + " answered " + got + ", due is " + want + ", after " + lastCalls());
        }
    }

    void gives(boolean want, Call call) {
        gives(want ? 1 : 0, call);
    }

    int calls() {
        return said.size();
    }

    private String lastCalls() {
        int before = said.size() - 1;
        int first = Math.max(0, before - 12);
        return (first > 0 ? ".. " + first + " calls more .. " : "") + said.subList(first, before);
    }
}
