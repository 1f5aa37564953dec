/** "An object is used for at most 512 calls after it has been made": the 512th call still answers as due. */
public final class LifeTest {
    private static final int NONE = -1;

    private static void isWhole(Run x) {
        if (x.calls() != Run.CALLS) {
            Report.wrong("the test made " + x.calls() + " calls, not " + Run.CALLS);
        }
    }

    private static void changes() {
        Run x = new Run();
        for (int i = 0; i < 511; i++) {
            x.gives(0, Call.enter(i % 2));
        }
        x.gives(511, Call.value(10));
        isWhole(x);
    }

    private static void refusedEnters() {
        Run x = new Run();
        for (int i = 0; i < 510; i++) {
            x.gives(18, Call.enter(3 + i));
        }
        x.gives(0, Call.enter(2));
        x.gives(1, Call.value(10));
        isWhole(x);
    }

    private static void moves() {
        Run x = new Run();
        for (int i = 0; i < 256; i++) {
            x.gives(0, Call.move(i % 8, i * 9999999));
            x.gives(i * 9999999, Call.value(i % 8));
        }
        isWhole(x);
    }

    /** Only the first alarm finds a mode that is not 0. */
    private static void alarms() {
        Run x = new Run();
        for (int i = 0; i < 256; i++) {
            x.gives(true, Call.alarm(i));
            x.gives(i == 0, Call.look(i));
        }
        isWhole(x);
    }

    private static void safeModes() {
        Run x = new Run();
        for (int i = 0; i < 128; i++) {
            x.gives(0, Call.move(6, i));
            x.gives(true, Call.alarm(i));
            x.gives(true, Call.look(i));
            x.gives(i == 127 ? 19 : 0, i == 127 ? Call.enter(2) : Call.enter(1));
        }
        isWhole(x);
    }

    private static void puts() {
        Run x = new Run();
        for (int i = 0; i < 512; i++) {
            x.gives(i < 8 ? i + 1 : NONE, Call.put(i % 32));
        }
        isWhole(x);
    }

    private static void formsMadeAndRemoved() {
        Run x = new Run();
        for (int i = 0; i < 170; i++) {
            x.gives(1, Call.put(i % 32));
            x.gives(0, Call.form(i, i + 1));
            x.gives(0, Call.remove(i));
        }
        x.gives(0, Call.value(11));
        x.gives(13, Call.form(3, 3));
        isWhole(x);
    }

    private static void formsRefused() {
        Run x = new Run();
        for (int i = 0; i < 8; i++) {
            x.gives(1, Call.put(i));
            x.gives(0, Call.form(i, 1));
        }
        for (int i = 0; i < 247; i++) {
            x.gives(1, Call.put(i % 32));
            x.gives(12, Call.form(8 + i, 1));
        }
        x.gives(NONE, Call.due(0, 0));
        x.gives(8, Call.value(11));
        isWhole(x);
    }

    private static void enables() {
        Run x = new Run(Call.put(4), Call.form(200, 5));
        for (int i = 0; i < 255; i++) {
            boolean on = i % 3 != 0;
            x.gives(0, Call.enable(200, on));
            x.gives(on ? 200 : NONE, Call.due(5 * i, 200));
        }
        isWhole(x);
    }

    private static void readings() {
        Run x = new Run(Call.put(4), Call.form(200, 5));
        for (int i = 0; i < 170; i++) {
            x.gives(4, Call.parameter(200, 0));
            x.gives(5, Call.about(200, 0));
            x.gives(1, Call.value(11));
        }
        isWhole(x);
    }

    public static void main(String[] args) {
        String limit = "An object is used for at most 512 calls";
        Report.sentence("what it is, changes", limit, LifeTest::changes);
        Report.sentence("what it is, refused enters", limit, LifeTest::refusedEnters);
        Report.sentence("what it is, moves", limit, LifeTest::moves);
        Report.sentence("what it is, alarms", limit, LifeTest::alarms);
        Report.sentence("what it is, safe modes", limit, LifeTest::safeModes);
        Report.sentence("what it is, puts", limit, LifeTest::puts);
        Report.sentence("what it is, forms", limit, LifeTest::formsMadeAndRemoved);
        Report.sentence("what it is, refused forms", limit, LifeTest::formsRefused);
        Report.sentence("what it is, enables", limit, LifeTest::enables);
        Report.sentence("what it is, readings", limit, LifeTest::readings);
        Report.end();
    }
}
