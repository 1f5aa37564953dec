/** The document's sentences on the mode, the actuators, the alarm and value: terms, promises 1 to 5 and 12. */
public final class ModeSentencesTest {
    private static final int NONE = -1;
    private static final int MIN = Integer.MIN_VALUE;
    private static final int MAX = Integer.MAX_VALUE;
    private static final int[] ZEROS = {0, 0, 0, 0, 0, 0, 0, 0};
    private static final int[] SAFE = {0, 0, 0, 0, 50, 50, 100, 1};
    private static final int[] MOVED = {11, -12, 13, -14, 15, -16, 17, -18};
    private static final int[] TICKS = {MIN, MIN + 1, -2, -1, 0, 1, 5, MAX - 1, MAX};

    private static void actuatorsAre(Run x, int[] want) {
        for (int a = 0; a < 8; a++) {
            x.gives(want[a], Call.value(a));
        }
    }

    private static void moveAll(Run x) {
        for (int a = 0; a < 8; a++) {
            x.gives(0, Call.move(a, MOVED[a]));
        }
    }

    private static void modeAndChangesAre(Run x, int mode, int changes) {
        x.gives(mode, Call.value(8));
        x.gives(changes, Call.value(10));
    }

    private static Run inMode(int m) {
        Run x = new Run(Call.enter(m));
        modeAndChangesAre(x, m, changesIn(m));
        return x;
    }

    /** How many changes inMode costs: none for the mode that is there at first. */
    private static int changesIn(int m) {
        return m == 1 ? 0 : 1;
    }

    // Terms

    private static void noneIsMinusOne() {
        if (ModeKeeper.NONE != -1) {
            Report.wrong("NONE is " + ModeKeeper.NONE);
        }
    }

    private static void moveTellsTheFirstFailure() {
        Run x = inMode(0);
        for (int a : Numbers.outside(0, 7)) {
            x.gives(18, Call.move(a, 1));
        }
        x.gives(19, Call.move(0, 1));
    }

    private static void enterTellsTheFirstFailure() {
        Run x = inMode(0);
        for (int m : Numbers.outside(0, 2)) {
            x.gives(18, Call.enter(m));
        }
        x.gives(19, Call.enter(2));
    }

    private static void modeIsOneAtFirst() {
        new Run().gives(1, Call.value(8));
    }

    private static void actuatorsAreZeroAtFirst() {
        actuatorsAre(new Run(), ZEROS);
    }

    private static void actuatorsAreInts() {
        for (int v : new int[] {MIN, MIN + 1, -65537, -32769, -129, -1, 0, 1, 128, 256, 32768, 65536, MAX - 1, MAX}) {
            Run x = new Run();
            for (int a = 0; a < 8; a++) {
                x.gives(0, Call.move(a, v));
                x.gives(v, Call.value(a));
            }
        }
    }

    private static void enterIntoAnotherModeIsAChange() {
        int[] modes = {2, 1, 0, 1, 2, 0, 1};
        Run x = new Run();
        for (int i = 0; i < modes.length; i++) {
            x.gives(0, Call.enter(modes[i]));
            modeAndChangesAre(x, modes[i], i + 1);
        }
    }

    private static void lookIntoAnotherModeIsAChange() {
        for (int m = 1; m <= 2; m++) {
            Run x = inMode(m);
            x.gives(true, Call.alarm(3));
            x.gives(true, Call.look(3));
            modeAndChangesAre(x, 0, changesIn(m) + 1);
        }
    }

    private static void enterIntoTheSameModeIsNoChange() {
        for (int m = 0; m <= 2; m++) {
            Run x = inMode(m);
            x.gives(0, Call.enter(m));
            x.gives(0, Call.enter(m));
            modeAndChangesAre(x, m, changesIn(m));
        }
    }

    private static void enterIntoSafeModeSetsTheActuators() {
        for (int m = 1; m <= 2; m++) {
            Run x = inMode(m);
            moveAll(x);
            x.gives(0, Call.enter(0));
            actuatorsAre(x, SAFE);
        }
    }

    private static void lookIntoSafeModeSetsTheActuators() {
        for (int m = 1; m <= 2; m++) {
            Run x = inMode(m);
            moveAll(x);
            x.gives(true, Call.alarm(0));
            x.gives(true, Call.look(0));
            actuatorsAre(x, SAFE);
        }
    }

    private static void everyTimeTheSafeModeComesTheActuatorsAreSet() {
        Run x = new Run();
        for (int i = 0; i < 5; i++) {
            moveAll(x);
            x.gives(0, Call.enter(0));
            actuatorsAre(x, SAFE);
            x.gives(0, Call.enter(1));
        }
    }

    private static void otherModesLeaveTheActuators() {
        Run x = new Run();
        moveAll(x);
        for (int m : new int[] {1, 2, 2, 1}) {
            x.gives(0, Call.enter(m));
            actuatorsAre(x, MOVED);
        }
    }

    private static void leavingTheSafeModeLeavesTheActuators() {
        Run x = inMode(0);
        x.gives(0, Call.enter(1));
        actuatorsAre(x, SAFE);
        x.gives(0, Call.enter(2));
        actuatorsAre(x, SAFE);
    }

    private static void thereIsNoAlarmAtFirst() {
        for (int tick : TICKS) {
            Run x = new Run();
            x.gives(NONE, Call.value(9));
            x.gives(false, Call.look(tick));
            modeAndChangesAre(x, 1, 0);
            x.gives(true, Call.alarm(tick));
        }
    }

    // Promise 1

    private static void aNewObjectIsAsSaid() {
        Run x = new Run();
        actuatorsAre(x, ZEROS);
        modeAndChangesAre(x, 1, 0);
        x.gives(NONE, Call.value(9));
    }

    private static void aNewObjectHasNoForms() {
        Run x = new Run();
        x.gives(0, Call.value(11));
        for (int id = -1; id <= 256; id++) {
            x.gives(NONE, Call.about(id, 0));
        }
        for (int id : new int[] {-1, 0, 1, 255, 256}) {
            x.gives(NONE, Call.parameter(id, -1));
            x.gives(NONE, Call.parameter(id, 0));
            x.gives(14, Call.enable(id, true));
            x.gives(14, Call.remove(id));
            x.gives(NONE, Call.due(0, id));
        }
        x.gives(0, Call.value(11));
    }

    private static void aNewObjectsTextIsEmpty() {
        new Run().gives(13, Call.form(1, 1));
        new Run().gives(1, Call.put(0));
    }

    // Promise 2

    private static void moveSetsThatActuatorAlone() {
        for (int m = 1; m <= 2; m++) {
            for (int a = 0; a < 8; a++) {
                Run x = inMode(m);
                moveAll(x);
                x.gives(0, Call.move(a, 99));
                int[] want = MOVED.clone();
                want[a] = 99;
                actuatorsAre(x, want);
                modeAndChangesAre(x, m, changesIn(m));
            }
        }
    }

    private static void moveRefusesOtherActuators() {
        for (int m = 1; m <= 2; m++) {
            Run x = inMode(m);
            moveAll(x);
            x.gives(18, Call.move(-1, 99));
            x.gives(18, Call.move(8, 99));
            for (int a : Numbers.outside(0, 7)) {
                x.gives(18, Call.move(a, 99));
            }
            actuatorsAre(x, MOVED);
            modeAndChangesAre(x, m, changesIn(m));
        }
    }

    private static void moveIsRefusedInSafeMode() {
        Run entered = inMode(0);
        Run looked = new Run(Call.alarm(0), Call.look(0));
        for (Run x : new Run[] {entered, looked}) {
            for (int a = 0; a < 8; a++) {
                x.gives(19, Call.move(a, SAFE[a]));
                x.gives(19, Call.move(a, 99));
            }
            actuatorsAre(x, SAFE);
            modeAndChangesAre(x, 0, 1);
        }
    }

    private static void moveIsFreeAgainAfterSafeMode() {
        Run x = new Run(Call.enter(0), Call.enter(1));
        x.gives(0, Call.move(7, 99));
        x.gives(99, Call.value(7));
    }

    // Promise 3

    private static void enterSetsTheMode() {
        for (int from = 0; from <= 2; from++) {
            for (int to = 0; to <= 2; to++) {
                if (from != 0 || to != 2) {
                    Run x = inMode(from);
                    x.gives(0, Call.enter(to));
                    modeAndChangesAre(x, to, from == to ? changesIn(from) : changesIn(from) + 1);
                }
            }
        }
    }

    private static void enterRefusesOtherModes() {
        for (int from = 1; from <= 2; from++) {
            Run x = inMode(from);
            moveAll(x);
            x.gives(18, Call.enter(-1));
            x.gives(18, Call.enter(3));
            for (int m : Numbers.outside(0, 2)) {
                x.gives(18, Call.enter(m));
            }
            modeAndChangesAre(x, from, changesIn(from));
            actuatorsAre(x, MOVED);
        }
    }

    private static void enterRefusesTheWayFromZeroToTwo() {
        Run entered = inMode(0);
        Run looked = new Run(Call.alarm(0), Call.look(0));
        for (Run x : new Run[] {entered, looked}) {
            x.gives(19, Call.enter(2));
            modeAndChangesAre(x, 0, 1);
            x.gives(0, Call.enter(1));
            x.gives(0, Call.enter(2));
            modeAndChangesAre(x, 2, 3);
        }
    }

    private static void enterLeavesTheAlarm() {
        for (int m = 0; m <= 2; m++) {
            Run x = new Run(Call.alarm(4), Call.enter(m));
            x.gives(4, Call.value(9));
            x.gives(false, Call.alarm(5));
        }
    }

    // Promise 4

    private static void alarmIsThatTickIfItWasNone() {
        for (int m = 0; m <= 2; m++) {
            for (int tick : TICKS) {
                Run x = inMode(m);
                x.gives(true, Call.alarm(tick));
                x.gives(tick, Call.value(9));
                modeAndChangesAre(x, m, changesIn(m));
            }
        }
    }

    private static void alarmIsRefusedIfThereIsOne() {
        for (int first : TICKS) {
            Run x = new Run(Call.alarm(first));
            for (int tick : TICKS) {
                x.gives(false, Call.alarm(tick));
                x.gives(first, Call.value(9));
            }
        }
    }

    /** value(9) can't tell an alarm at -1 from none, but alarm and look can. */
    private static void anAlarmAtMinusOneIsOne() {
        Run x = new Run(Call.alarm(-1));
        x.gives(false, Call.alarm(7));
        x.gives(NONE, Call.value(9));
        x.gives(false, Call.look(-2));
        x.gives(true, Call.look(-1));
        x.gives(true, Call.alarm(7));
        x.gives(7, Call.value(9));
    }

    private static void alarmIsFreeAgainAfterLook() {
        Run x = new Run(Call.alarm(5), Call.look(5));
        x.gives(true, Call.alarm(3));
        x.gives(3, Call.value(9));
        x.gives(false, Call.alarm(2));
    }

    // Promise 5

    private static void lookAtTheAlarmsOwnTick() {
        for (int tick : TICKS) {
            Run x = new Run(Call.alarm(tick));
            x.gives(true, Call.look(tick));
            modeAndChangesAre(x, 0, 1);
        }
    }

    private static void lookAfterTheAlarm() {
        for (int set : TICKS) {
            for (int tick : TICKS) {
                if (tick > set) {
                    Run x = new Run(Call.alarm(set));
                    x.gives(true, Call.look(tick));
                    modeAndChangesAre(x, 0, 1);
                }
            }
        }
    }

    private static void lookBeforeTheAlarm() {
        for (int set : TICKS) {
            for (int tick : TICKS) {
                if (tick < set) {
                    Run x = new Run(Call.alarm(set));
                    moveAll(x);
                    x.gives(false, Call.look(tick));
                    modeAndChangesAre(x, 1, 0);
                    actuatorsAre(x, MOVED);
                    x.gives(set, Call.value(9));
                    x.gives(false, Call.alarm(tick));
                    x.gives(true, Call.look(set));
                }
            }
        }
    }

    private static void lookTakesTheAlarmAway() {
        for (int m = 0; m <= 2; m++) {
            Run x = inMode(m);
            x.gives(true, Call.alarm(6));
            x.answer(Call.look(6));
            x.gives(NONE, Call.value(9));
            x.gives(0, Call.enter(1));
            x.gives(false, Call.look(6));
            x.gives(false, Call.look(MAX));
            x.gives(1, Call.value(8));
        }
    }

    private static void lookWithoutAnAlarmDoesNothing() {
        for (int m = 0; m <= 2; m++) {
            Run x = inMode(m);
            for (int tick : TICKS) {
                x.gives(false, Call.look(tick));
            }
            modeAndChangesAre(x, m, changesIn(m));
        }
    }

    private static void lookInSafeModeIsNoChange() {
        Run x = inMode(0);
        x.gives(true, Call.alarm(6));
        x.gives(false, Call.look(6));
        modeAndChangesAre(x, 0, 1);
        actuatorsAre(x, SAFE);
        x.gives(true, Call.alarm(7));
    }

    // Promise 12

    /** Every value that is told is another one, and none is 0. */
    private static Run withAllKindsOfValues() {
        Run x = new Run(Call.enter(2), Call.enter(1), Call.enter(2), Call.alarm(44));
        moveAll(x);
        for (int id = 0; id < 4; id++) {
            x.gives(1, Call.put(id));
            x.gives(0, Call.form(id, 1));
        }
        return x;
    }

    private static void valueOfActuators() {
        actuatorsAre(withAllKindsOfValues(), MOVED);
    }

    private static void valueOfMode() {
        withAllKindsOfValues().gives(2, Call.value(8));
        inMode(0).gives(0, Call.value(8));
        new Run().gives(1, Call.value(8));
    }

    private static void valueOfAlarm() {
        withAllKindsOfValues().gives(44, Call.value(9));
    }

    private static void valueWithoutAlarm() {
        Run x = new Run();
        x.gives(NONE, Call.value(9));
        x.gives(true, Call.alarm(0));
        x.gives(0, Call.value(9));
        x.gives(true, Call.look(0));
        x.gives(NONE, Call.value(9));
    }

    private static void valueOfChanges() {
        withAllKindsOfValues().gives(3, Call.value(10));
    }

    private static void valueOfForms() {
        Run x = withAllKindsOfValues();
        x.gives(4, Call.value(11));
        x.gives(0, Call.remove(2));
        x.gives(3, Call.value(11));
    }

    private static void valueOfAnotherWhat() {
        Run x = withAllKindsOfValues();
        x.gives(0, Call.value(-1));
        x.gives(0, Call.value(12));
        for (int what : Numbers.outside(0, 11)) {
            x.gives(0, Call.value(what));
        }
    }

    private static void terms() {
        Report.sentence("terms", "NONE = -1", ModeSentencesTest::noneIsMinusOne);
        String first = "0, or the FAILURE, the first in the order that is told";
        Report.sentence("terms, move", first, ModeSentencesTest::moveTellsTheFirstFailure);
        Report.sentence("terms, enter", first, ModeSentencesTest::enterTellsTheFirstFailure);
        Report.sentence("terms", "MODE is .. 1 (at first)", ModeSentencesTest::modeIsOneAtFirst);
        Report.sentence("terms", "ACTUATORS 0 .. 7 are .. 0 at first", ModeSentencesTest::actuatorsAreZeroAtFirst);
        Report.sentence("terms", "ACTUATORS 0 .. 7 are ints", ModeSentencesTest::actuatorsAreInts);
        String change = "Wherever the MODE becomes another one that is a CHANGE";
        Report.sentence("terms, enter", change, ModeSentencesTest::enterIntoAnotherModeIsAChange);
        Report.sentence("terms, look", change, ModeSentencesTest::lookIntoAnotherModeIsAChange);
        Report.sentence("terms, the same mode", change, ModeSentencesTest::enterIntoTheSameModeIsNoChange);
        String safe = "if it is 0 then, the actuators become 0 0 0 0 50 50 100 1";
        Report.sentence("terms, enter", safe, ModeSentencesTest::enterIntoSafeModeSetsTheActuators);
        Report.sentence("terms, look", safe, ModeSentencesTest::lookIntoSafeModeSetsTheActuators);
        Report.sentence("terms, again", safe, ModeSentencesTest::everyTimeTheSafeModeComesTheActuatorsAreSet);
        Report.sentence("terms, not 0", safe, ModeSentencesTest::otherModesLeaveTheActuators);
        Report.sentence("terms, from 0", safe, ModeSentencesTest::leavingTheSafeModeLeavesTheActuators);
        Report.sentence("terms", "THE ALARM is .. none (at first)", ModeSentencesTest::thereIsNoAlarmAtFirst);
    }

    private static void newMoveAndEnter() {
        Report.sentence("promise 1", "As said", ModeSentencesTest::aNewObjectIsAsSaid);
        Report.sentence("promise 1", "no forms", ModeSentencesTest::aNewObjectHasNoForms);
        Report.sentence("promise 1", "the text is empty", ModeSentencesTest::aNewObjectsTextIsEmpty);
        Report.sentence("promise 2", "Actuator a becomes v", ModeSentencesTest::moveSetsThatActuatorAlone);
        Report.sentence("promise 2", "18 if there is none such", ModeSentencesTest::moveRefusesOtherActuators);
        Report.sentence("promise 2", "19 in MODE 0", ModeSentencesTest::moveIsRefusedInSafeMode);
        Report.sentence("promise 2, after 0", "19 in MODE 0", ModeSentencesTest::moveIsFreeAgainAfterSafeMode);
        Report.sentence("promise 3", "The MODE becomes m", ModeSentencesTest::enterSetsTheMode);
        Report.sentence("promise 3", "18 if it is not 0 .. 2", ModeSentencesTest::enterRefusesOtherModes);
        Report.sentence("promise 3", "19 from 0 to 2", ModeSentencesTest::enterRefusesTheWayFromZeroToTwo);
        Report.sentence("promise 3, alarm", "The MODE becomes m", ModeSentencesTest::enterLeavesTheAlarm);
    }

    private static void alarmAndLook() {
        Report.sentence("promise 4", "The ALARM is a tick, if it was none: true",
            ModeSentencesTest::alarmIsThatTickIfItWasNone);
        Report.sentence("promise 4", "false if it was one", ModeSentencesTest::alarmIsRefusedIfThereIsOne);
        Report.sentence("promise 4, tick -1", "false if it was one", ModeSentencesTest::anAlarmAtMinusOneIsOne);
        Report.sentence("promise 4, after look", "if it was none: true", ModeSentencesTest::alarmIsFreeAgainAfterLook);
        String reached = "If there is an ALARM that is not above a tick";
        Report.sentence("promise 5, at it", reached, ModeSentencesTest::lookAtTheAlarmsOwnTick);
        Report.sentence("promise 5, after it", reached, ModeSentencesTest::lookAfterTheAlarm);
        Report.sentence("promise 5, before it", reached, ModeSentencesTest::lookBeforeTheAlarm);
        Report.sentence("promise 5, none", reached, ModeSentencesTest::lookWithoutAnAlarmDoesNothing);
        Report.sentence("promise 5", "it is none then", ModeSentencesTest::lookTakesTheAlarmAway);
        Report.sentence("promise 5", "the MODE becomes 0, if it is not: whether that is a CHANGE",
            ModeSentencesTest::lookInSafeModeIsNoChange);
    }

    private static void values() {
        Report.sentence("promise 12", "What 0 .. 7: the actuators", ModeSentencesTest::valueOfActuators);
        Report.sentence("promise 12", "8: MODE", ModeSentencesTest::valueOfMode);
        Report.sentence("promise 12", "9: the ALARM", ModeSentencesTest::valueOfAlarm);
        Report.sentence("promise 12", "NONE without one", ModeSentencesTest::valueWithoutAlarm);
        Report.sentence("promise 12", "10: how many CHANGES there were", ModeSentencesTest::valueOfChanges);
        Report.sentence("promise 12", "11: how many forms there are", ModeSentencesTest::valueOfForms);
        Report.sentence("promise 12", "0 for another what", ModeSentencesTest::valueOfAnotherWhat);
    }

    public static void main(String[] args) {
        terms();
        newMoveAndEnter();
        alarmAndLook();
        values();
        Report.end();
    }
}
