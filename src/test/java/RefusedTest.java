import java.util.ArrayList;
import java.util.List;

/**
 * A refused call leaves everything else as it was, and so do the calls that only read.
 * Two objects of the same past, one of them with the refused call at its end, must answer
 * alike whatever is asked of them; so also what no reading call shows (the text, an alarm
 * at -1, the free places) is compared.
 */
public final class RefusedTest {
    private static final int NONE = -1;
    private static final int MAX = Integer.MAX_VALUE;

    /** A past of an object; the calls that wrote the text stand apart, as form takes it away. */
    private record Past(String name, int mode, List<Call> calls, int[] text) {
        List<Call> withText() {
            List<Call> all = new ArrayList<>(calls);
            for (int p : text) {
                all.add(Call.put(p));
            }
            return all;
        }
    }

    // The pasts

    private static void addForm(List<Call> calls, int id, int every, boolean on, int... parameters) {
        for (int p : parameters) {
            calls.add(Call.put(p));
        }
        calls.add(Call.form(id, every));
        calls.add(Call.enable(id, on));
    }

    private static void addMoves(List<Call> calls) {
        for (int a = 0; a < 8; a++) {
            calls.add(Call.move(a, 1000 + a));
        }
    }

    /** The ids 0, 30, 60 .. 210; every second one is on. */
    private static void addEightForms(List<Call> calls) {
        for (int i = 0; i < 8; i++) {
            addForm(calls, i * 30, i + 1, i % 2 == 0, i, 31 - i);
        }
    }

    private static Past fresh() {
        return new Past("new", 1, List.of(), new int[0]);
    }

    private static Past modeTwo() {
        List<Call> calls = new ArrayList<>();
        calls.add(Call.enter(2));
        addMoves(calls);
        calls.add(Call.alarm(20));
        addForm(calls, 0, 3, true, 7, 8, 9);
        addForm(calls, 30, 2, false, 1);
        return new Past("mode 2, alarm, two forms, a text", 2, calls, new int[] {3, 4});
    }

    private static Past fullInModeOne() {
        List<Call> calls = new ArrayList<>();
        addMoves(calls);
        calls.add(Call.alarm(-1));
        addEightForms(calls);
        return new Past("mode 1, alarm at -1, eight forms, a full text", 1, calls,
            new int[] {1, 2, 3, 4, 5, 6, 7, 8});
    }

    private static Past safeByEnter() {
        List<Call> calls = new ArrayList<>();
        addMoves(calls);
        calls.add(Call.alarm(5));
        addEightForms(calls);
        calls.add(Call.enter(0));
        return new Past("mode 0 by enter, alarm, eight forms, a text of one", 0, calls, new int[] {9});
    }

    private static Past safeByLook() {
        List<Call> calls = new ArrayList<>();
        addMoves(calls);
        addEightForms(calls);
        calls.add(Call.remove(30));
        calls.add(Call.enable(0, false));
        calls.add(Call.remove(0));
        calls.add(Call.alarm(5));
        calls.add(Call.look(6));
        return new Past("mode 0 by look, no alarm, six forms, no text", 0, calls, new int[0]);
    }

    private static List<Past> pasts() {
        return List.of(fresh(), modeTwo(), fullInModeOne(), safeByEnter(), safeByLook());
    }

    // What is asked of both objects

    private static List<Call> readings() {
        List<Call> calls = new ArrayList<>();
        for (int what = -2; what <= 13; what++) {
            calls.add(Call.value(what));
        }
        for (int id = 0; id <= 240; id += 30) {
            for (int what = -1; what <= 2; what++) {
                calls.add(Call.about(id, what));
            }
            for (int k = -2; k <= 8; k++) {
                calls.add(Call.parameter(id, k));
            }
        }
        return calls;
    }

    private static List<Call> readingsOfAllIds() {
        List<Call> calls = new ArrayList<>();
        for (int id = -1; id <= 256; id++) {
            calls.add(Call.about(id, 0));
        }
        return calls;
    }

    private static List<Call> readingsOfDue() {
        List<Call> calls = new ArrayList<>();
        for (int from = -30; from <= 240; from += 30) {
            for (int tick : new int[] {-6, 0, 1, 2, 3, 4, 5, 7, 8, 840, MAX}) {
                calls.add(Call.due(tick, from));
                calls.add(Call.due(tick, from + 1));
            }
        }
        return calls;
    }

    private static List<Call> askHowLongTheTextIs() {
        List<Call> calls = new ArrayList<>();
        for (int i = 0; i < 9; i++) {
            calls.add(Call.put(29));
        }
        return calls;
    }

    /** A place is made free for the form that shows the text. */
    private static List<Call> askWhatTheTextIs() {
        List<Call> calls = new ArrayList<>();
        calls.add(Call.enable(60, false));
        calls.add(Call.remove(60));
        calls.add(Call.form(251, 1));
        for (int k = -1; k <= 8; k++) {
            calls.add(Call.parameter(251, k));
        }
        return calls;
    }

    private static List<Call> askWhetherThereIsAnAlarm() {
        return List.of(Call.alarm(77), Call.value(9), Call.look(MAX), Call.value(8), Call.value(10));
    }

    private static List<Call> askWhenTheAlarmIs() {
        List<Call> calls = new ArrayList<>();
        for (int tick = -3; tick <= 22; tick++) {
            calls.add(Call.look(tick));
            calls.add(Call.value(8));
            calls.add(Call.value(9));
            calls.add(Call.value(10));
        }
        return calls;
    }

    private static List<Call> askHowManyPlacesAreFree() {
        List<Call> calls = new ArrayList<>();
        for (int id = 240; id <= 249; id++) {
            calls.add(Call.put(1));
            calls.add(Call.form(id, 2));
            calls.add(Call.value(11));
        }
        return calls;
    }

    private static List<Call> askWhatCanBeMovedAndEntered() {
        List<Call> calls = new ArrayList<>();
        for (int m : new int[] {2, 1, 2, 0}) {
            for (int a = 0; a < 8; a++) {
                calls.add(Call.move(a, 2000 + a));
                calls.add(Call.value(a));
            }
            calls.add(Call.enter(m));
            calls.add(Call.value(8));
            calls.add(Call.value(10));
        }
        return calls;
    }

    private static List<Call> askWhatCanBeRemoved() {
        List<Call> calls = new ArrayList<>();
        for (int id = 0; id <= 240; id += 30) {
            calls.add(Call.remove(id));
            calls.add(Call.enable(id, false));
            calls.add(Call.remove(id));
            calls.add(Call.value(11));
        }
        return calls;
    }

    private static List<List<Call>> questions() {
        return List.of(readings(), readingsOfAllIds(), readingsOfDue(), askHowLongTheTextIs(), askWhatTheTextIs(),
            askWhetherThereIsAnAlarm(), askWhenTheAlarmIs(), askHowManyPlacesAreFree(),
            askWhatCanBeMovedAndEntered(), askWhatCanBeRemoved());
    }

    private static void areAlike(List<Call> past, List<Call> other, String told) {
        for (List<Call> question : questions()) {
            Run x = new Run(past);
            Run y = new Run(other);
            for (Call call : question) {
                int want = x.answer(call);
                int got = y.answer(call);
                if (got != want) {
                    Report.wrong(told + ": " + call.said() + " answered " + got + " then, " + want + " without");
                    break;
                }
            }
        }
    }

    private static List<Call> followedBy(List<Call> past, Call... calls) {
        List<Call> all = new ArrayList<>(past);
        all.addAll(List.of(calls));
        return all;
    }

    private static void isRefused(Past past, int failure, Call call) {
        new Run(past.withText()).gives(failure, call);
        areAlike(past.withText(), followedBy(past.withText(), call, call), past.name() + ", " + call.said());
    }

    private static void changesNothing(Past past, Call... calls) {
        areAlike(past.withText(), followedBy(past.withText(), calls), past.name() + ", " + List.of(calls).size()
            + " calls from " + calls[0].said() + " on");
    }

    // The refused calls

    private static void moveOfNoActuator() {
        for (Past past : pasts()) {
            for (int a : new int[] {-1, 8, Integer.MIN_VALUE, MAX}) {
                isRefused(past, 18, Call.move(a, 3));
            }
        }
    }

    private static void moveInSafeMode() {
        for (Past past : List.of(safeByEnter(), safeByLook())) {
            for (int a = 0; a < 8; a++) {
                isRefused(past, 19, Call.move(a, 3));
            }
        }
    }

    private static void enterOfNoMode() {
        for (Past past : pasts()) {
            for (int m : new int[] {-1, 3, Integer.MIN_VALUE, MAX}) {
                isRefused(past, 18, Call.enter(m));
            }
        }
    }

    private static void enterFromZeroToTwo() {
        isRefused(safeByEnter(), 19, Call.enter(2));
        isRefused(safeByLook(), 19, Call.enter(2));
    }

    private static void alarmOverOne() {
        for (Past past : List.of(modeTwo(), fullInModeOne(), safeByEnter())) {
            for (int tick : new int[] {Integer.MIN_VALUE, -2, -1, 0, 4, 5, 6, 20, 21, MAX}) {
                isRefused(past, 0, Call.alarm(tick));
            }
        }
    }

    private static void lookBeforeTheAlarm() {
        isRefused(modeTwo(), 0, Call.look(19));
        isRefused(modeTwo(), 0, Call.look(Integer.MIN_VALUE));
        isRefused(fullInModeOne(), 0, Call.look(-2));
        isRefused(fullInModeOne(), 0, Call.look(Integer.MIN_VALUE));
        isRefused(safeByEnter(), 0, Call.look(4));
        isRefused(safeByEnter(), 0, Call.look(Integer.MIN_VALUE));
    }

    private static void lookWithoutAlarm() {
        for (Past past : List.of(fresh(), safeByLook())) {
            for (int tick : new int[] {Integer.MIN_VALUE, -1, 0, 5, 6, MAX}) {
                isRefused(past, 0, Call.look(tick));
            }
        }
    }

    private static void putOfNoParameter() {
        for (Past past : pasts()) {
            for (int p : new int[] {-1, 32, Integer.MIN_VALUE, MAX}) {
                isRefused(past, NONE, Call.put(p));
            }
        }
    }

    private static void putOfANinth() {
        for (int p = 0; p <= 31; p++) {
            isRefused(fullInModeOne(), NONE, Call.put(p));
        }
    }

    private static void formIsRefused(Past past, int failure, Call call) {
        new Run(past.withText()).gives(failure, call);
        // The text goes whatever comes of the form, so the other object never had it.
        areAlike(past.calls(), followedBy(past.withText(), call), past.name() + ", " + call.said());
    }

    private static void formThatIsWrong() {
        for (Past past : pasts()) {
            for (int wrong : new int[] {-1, 256, Integer.MIN_VALUE, MAX}) {
                formIsRefused(past, 13, Call.form(wrong, 1));
                formIsRefused(past, 13, Call.form(60, wrong));
                formIsRefused(past, 13, Call.form(9, wrong));
            }
            formIsRefused(past, 13, Call.form(9, 0));
        }
        for (Past past : List.of(fresh(), safeByLook())) {
            formIsRefused(past, 13, Call.form(9, 1));
            formIsRefused(past, 13, Call.form(60, 1));
        }
    }

    private static void formThatIsThere() {
        formIsRefused(modeTwo(), 11, Call.form(0, 9));
        formIsRefused(modeTwo(), 11, Call.form(30, 9));
        for (int id = 0; id <= 210; id += 30) {
            formIsRefused(fullInModeOne(), 11, Call.form(id, 9));
            formIsRefused(safeByEnter(), 11, Call.form(id, 9));
        }
    }

    private static void formOfANinth() {
        for (int id : new int[] {1, 29, 211, 240, 255}) {
            formIsRefused(fullInModeOne(), 12, Call.form(id, 9));
            formIsRefused(safeByEnter(), 12, Call.form(id, 9));
        }
    }

    private static void removeOfNoForm() {
        for (Past past : pasts()) {
            for (int id : new int[] {-1, 1, 255, 256, Integer.MIN_VALUE, MAX}) {
                isRefused(past, 14, Call.remove(id));
            }
        }
        isRefused(safeByLook(), 14, Call.remove(0));
        isRefused(safeByLook(), 14, Call.remove(30));
    }

    private static void removeOfAFormThatIsOn() {
        isRefused(modeTwo(), 15, Call.remove(0));
        for (int id = 0; id <= 210; id += 60) {
            isRefused(fullInModeOne(), 15, Call.remove(id));
            isRefused(safeByEnter(), 15, Call.remove(id));
        }
    }

    private static void enableOfNoForm() {
        for (Past past : pasts()) {
            for (int id : new int[] {-1, 1, 255, 256, Integer.MIN_VALUE, MAX}) {
                isRefused(past, 14, Call.enable(id, true));
                isRefused(past, 14, Call.enable(id, false));
            }
        }
        isRefused(safeByLook(), 14, Call.enable(0, true));
        isRefused(safeByLook(), 14, Call.enable(30, true));
    }

    // Calls that are not refused and yet change nothing, or only what they say

    private static void enterOfTheSameMode() {
        for (Past past : pasts()) {
            new Run(past.withText()).gives(0, Call.enter(past.mode()));
            changesNothing(past, Call.enter(past.mode()));
        }
    }

    private static void enableAsItIs() {
        for (int id = 0; id <= 210; id += 30) {
            changesNothing(fullInModeOne(), Call.enable(id, id % 60 == 0));
            changesNothing(fullInModeOne(), Call.enable(id, id % 60 != 0), Call.enable(id, id % 60 == 0));
        }
    }

    private static void lookInSafeMode() {
        changesNothing(safeByLook(), Call.alarm(5), Call.look(5));
    }

    private static void formAndRemove() {
        for (Past past : List.of(fresh(), modeTwo(), safeByLook())) {
            areAlike(past.calls(), followedBy(past.calls(), Call.put(3), Call.form(9, 2), Call.remove(9)),
                past.name() + ", a form made and removed");
        }
    }

    private static void readingCalls() {
        int[] numbers = {Integer.MIN_VALUE, -256, -2, -1, 0, 1, 2, 7, 8, 9, 11, 12, 30, 60, 255, 256, MAX};
        for (Past past : pasts()) {
            for (int n : numbers) {
                changesNothing(past, Call.value(n));
                changesNothing(past, Call.due(n, 0), Call.due(0, n), Call.due(n, n));
                changesNothing(past, Call.parameter(n, -1), Call.parameter(n, 0), Call.parameter(60, n));
                changesNothing(past, Call.about(n, 0), Call.about(n, 1), Call.about(60, n));
            }
        }
    }

    private static void modeCalls() {
        Report.sentence("promise 2, refused", "18 if there is none such", RefusedTest::moveOfNoActuator);
        Report.sentence("promise 2, refused", "19 in MODE 0", RefusedTest::moveInSafeMode);
        Report.sentence("promise 3, refused", "18 if it is not 0 .. 2", RefusedTest::enterOfNoMode);
        Report.sentence("promise 3, refused", "19 from 0 to 2", RefusedTest::enterFromZeroToTwo);
        Report.sentence("promise 4, refused", "false if it was one", RefusedTest::alarmOverOne);
        String reached = "If there is an ALARM that is not above a tick";
        Report.sentence("promise 5, above", reached, RefusedTest::lookBeforeTheAlarm);
        Report.sentence("promise 5, none", reached, RefusedTest::lookWithoutAlarm);
    }

    private static void formCalls() {
        Report.sentence("promise 6, refused", "NONE if there is no such parameter", RefusedTest::putOfNoParameter);
        Report.sentence("promise 6, refused", "or it has 8", RefusedTest::putOfANinth);
        Report.sentence("promise 7, refused", "13 if it has none, every is not 1 .. 255, or there is no such id",
            RefusedTest::formThatIsWrong);
        Report.sentence("promise 7, refused", "11 if the id is there", RefusedTest::formThatIsThere);
        Report.sentence("promise 7, refused", "12 if 8 are", RefusedTest::formOfANinth);
        Report.sentence("promise 8, refused", "14 if there is none such", RefusedTest::removeOfNoForm);
        Report.sentence("promise 8, refused", "15 if it is on", RefusedTest::removeOfAFormThatIsOn);
        Report.sentence("promise 9, refused", "14", RefusedTest::enableOfNoForm);
    }

    private static void callsThatChangeNothing() {
        Report.sentence("promise 3, the same", "Wherever the MODE becomes another one that is a CHANGE",
            RefusedTest::enterOfTheSameMode);
        Report.sentence("promise 5, mode 0", "the MODE becomes 0, if it is not", RefusedTest::lookInSafeMode);
        Report.sentence("promise 8, nothing stays", "The form is gone", RefusedTest::formAndRemove);
        Report.sentence("promise 9, the same", "It is on, or off", RefusedTest::enableAsItIs);
        Report.sentence("promises 10 to 13", "Nothing is promised beyond the answers and state changes",
            RefusedTest::readingCalls);
    }

    public static void main(String[] args) {
        modeCalls();
        formCalls();
        callsThatChangeNothing();
        Report.end();
    }
}
