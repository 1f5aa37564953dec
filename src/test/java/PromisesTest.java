/** Each promise of the document by hand: ordinary inputs, the edges it names, wrong inputs. */
public final class PromisesTest {
    private static final int[] SAFE = {0, 0, 0, 0, 50, 50, 100, 1};
    private static final int[] STRANGE = {
        Integer.MIN_VALUE, Integer.MIN_VALUE + 1, -256, -2, 256, 1000, Integer.MAX_VALUE - 1, Integer.MAX_VALUE};

    private static String promise = "";
    private static int wrong = 0;

    private static void is(String call, int got, int want) {
        if (got != want) {
            wrong++;
            System.out.println(promise + ": " + call + " answered " + got + ", due is " + want);
        }
    }

    private static void is(String call, boolean got, boolean want) {
        is(call, got ? 1 : 0, want ? 1 : 0);
    }

    private static void actuatorsAre(ModeKeeper x, String when, int... want) {
        for (int a = 0; a < 8; a++) {
            is("value(" + a + ") " + when, x.value(a), want[a]);
        }
    }

    /** Makes a form of the parameters and answers what form answered. */
    private static int make(ModeKeeper x, int id, int every, int... parameters) {
        for (int i = 0; i < parameters.length; i++) {
            is("put(" + parameters[i] + ")", x.put(parameters[i]), i + 1);
        }
        return x.form(id, every);
    }

    /** A keeper that was brought into the mode by the calls of the face. */
    private static ModeKeeper inMode(int m) {
        ModeKeeper x = new ModeKeeper();
        x.enter(m);
        is("the mode", x.value(8), m);
        return x;
    }

    private static ModeKeeper withEightForms() {
        ModeKeeper x = new ModeKeeper();
        for (int i = 0; i < 8; i++) {
            is("form " + i, make(x, i * 10, i + 1, i), 0);
        }
        return x;
    }

    private static void newObject() {
        promise = "promise 1";
        is("NONE", ModeKeeper.NONE, -1);
        ModeKeeper x = new ModeKeeper();
        actuatorsAre(x, "at first", 0, 0, 0, 0, 0, 0, 0, 0);
        is("mode", x.value(8), 1);
        is("alarm", x.value(9), -1);
        is("changes", x.value(10), 0);
        is("forms", x.value(11), 0);
        is("look without an alarm", x.look(Integer.MAX_VALUE), false);
        for (int id = 0; id <= 255; id++) {
            is("about(" + id + ", 0)", x.about(id, 0), -1);
        }
        is("the text is empty", x.form(1, 1), 13);
        is("the text is empty", x.put(0), 1);
    }

    private static void objectsStandAlone() {
        promise = "promise 1, two objects";
        ModeKeeper x = new ModeKeeper();
        ModeKeeper y = new ModeKeeper();
        x.move(0, 5);
        make(x, 1, 1, 1);
        x.put(3);
        x.alarm(7);
        x.enter(0);
        x.enter(1);
        x.move(7, 99);
        actuatorsAre(y, "of another object", 0, 0, 0, 0, 0, 0, 0, 0);
        is("mode", y.value(8), 1);
        is("alarm", y.value(9), -1);
        is("changes", y.value(10), 0);
        is("forms", y.value(11), 0);
        is("put", y.put(4), 1);
        y.enter(0);
        actuatorsAre(y, "after another object's move", SAFE);
    }

    private static void move() {
        promise = "promise 2";
        for (int m = 1; m <= 2; m++) {
            ModeKeeper x = inMode(m);
            for (int a = 0; a < 8; a++) {
                is("move(" + a + ")", x.move(a, a * 100 - 300), 0);
            }
            actuatorsAre(x, "after move", -300, -200, -100, 0, 100, 200, 300, 400);
            is("move to the least int", x.move(0, Integer.MIN_VALUE), 0);
            is("move to the greatest int", x.move(7, Integer.MAX_VALUE), 0);
            is("move(-1)", x.move(-1, 1), 18);
            is("move(8)", x.move(8, 1), 18);
            for (int a : STRANGE) {
                is("move(" + a + ")", x.move(a, 1), 18);
            }
            actuatorsAre(x, "after wrong moves",
                Integer.MIN_VALUE, -200, -100, 0, 100, 200, 300, Integer.MAX_VALUE);
            is("mode", x.value(8), m);
        }
        ModeKeeper safe = inMode(0);
        for (int a = 0; a < 8; a++) {
            is("move(" + a + ") in mode 0", safe.move(a, 7), 19);
        }
        is("move(8) in mode 0", safe.move(8, 7), 18);
        is("move(-1) in mode 0", safe.move(-1, 7), 18);
        actuatorsAre(safe, "in mode 0", SAFE);
    }

    private static void enter() {
        promise = "promise 3";
        for (int from = 0; from <= 2; from++) {
            for (int to = 0; to <= 2; to++) {
                ModeKeeper x = inMode(from);
                int changes = x.value(10);
                boolean refused = from == 0 && to == 2;
                is("enter(" + to + ") from " + from, x.enter(to), refused ? 19 : 0);
                is("mode", x.value(8), refused ? from : to);
                is("changes", x.value(10), refused || from == to ? changes : changes + 1);
            }
            ModeKeeper x = inMode(from);
            int changes = x.value(10);
            is("enter(-1)", x.enter(-1), 18);
            is("enter(3)", x.enter(3), 18);
            for (int m : STRANGE) {
                is("enter(" + m + ")", x.enter(m), 18);
            }
            is("mode after wrong enters", x.value(8), from);
            is("changes after wrong enters", x.value(10), changes);
        }
    }

    private static void actuatorsOfChanges() {
        promise = "promise 3, actuators";
        ModeKeeper x = new ModeKeeper();
        for (int a = 0; a < 8; a++) {
            x.move(a, 7 + a);
        }
        x.enter(2);
        actuatorsAre(x, "from 1 to 2", 7, 8, 9, 10, 11, 12, 13, 14);
        x.enter(1);
        actuatorsAre(x, "from 2 to 1", 7, 8, 9, 10, 11, 12, 13, 14);
        x.enter(0);
        actuatorsAre(x, "from 1 to 0", SAFE);
        x.enter(1);
        actuatorsAre(x, "from 0 to 1", SAFE);
        x.enter(2);
        x.move(4, 4);
        x.enter(0);
        actuatorsAre(x, "from 2 to 0", SAFE);
        is("changes", x.value(10), 6);
    }

    private static void alarm() {
        promise = "promise 4";
        int[] ticks = {0, 1, 5, -1, -2, Integer.MIN_VALUE, Integer.MAX_VALUE};
        for (int tick : ticks) {
            ModeKeeper x = new ModeKeeper();
            is("alarm(" + tick + ")", x.alarm(tick), true);
            is("value(9)", x.value(9), tick);
            is("alarm again", x.alarm(tick), false);
            is("alarm of another tick", x.alarm(77), false);
            is("alarm(-1) over one", x.alarm(-1), false);
            is("value(9)", x.value(9), tick);
            x.look(Integer.MAX_VALUE);
            is("alarm after look", x.alarm(78), true);
            is("value(9)", x.value(9), 78);
        }
        ModeKeeper x = new ModeKeeper();
        x.alarm(4);
        x.enter(0);
        is("a change by enter leaves the alarm", x.value(9), 4);
    }

    private static void look() {
        promise = "promise 5";
        int[] ticks = {0, 5, -1, -100, Integer.MIN_VALUE + 1, Integer.MAX_VALUE};
        for (int m = 0; m <= 2; m++) {
            for (int tick : ticks) {
                ModeKeeper x = inMode(m);
                int changes = x.value(10);
                x.alarm(tick);
                is("look below the alarm", x.look(tick - 1), false);
                is("look at the least int", x.look(Integer.MIN_VALUE), false);
                is("mode", x.value(8), m);
                is("alarm", x.value(9), tick);
                is("look(" + tick + ") in mode " + m, x.look(tick), m != 0);
                is("mode", x.value(8), 0);
                is("alarm", x.value(9), -1);
                is("changes", x.value(10), m == 0 ? changes : changes + 1);
                actuatorsAre(x, "after look", SAFE);
                is("look again", x.look(tick), false);
                x.enter(1);
                is("the alarm is none", x.look(Integer.MAX_VALUE), false);
                is("mode", x.value(8), 1);
            }
        }
        ModeKeeper late = new ModeKeeper();
        late.alarm(5);
        is("look long after the alarm", late.look(Integer.MAX_VALUE), true);
        ModeKeeper early = new ModeKeeper();
        early.alarm(Integer.MAX_VALUE);
        is("look long before the alarm", early.look(Integer.MIN_VALUE), false);
        ModeKeeper least = new ModeKeeper();
        least.alarm(Integer.MIN_VALUE);
        is("look at the least int", least.look(Integer.MIN_VALUE), true);
    }

    private static void put() {
        promise = "promise 6";
        ModeKeeper x = new ModeKeeper();
        is("put(-1)", x.put(-1), -1);
        is("put(32)", x.put(32), -1);
        for (int i = 0; i < 8; i++) {
            is("put", x.put(i % 2 == 0 ? 31 : 0), i + 1);
            for (int p : STRANGE) {
                is("put(" + p + ")", x.put(p), -1);
            }
        }
        is("put of a ninth", x.put(3), -1);
        is("put of a tenth", x.put(0), -1);
        is("form", x.form(5, 1), 0);
        is("how many", x.parameter(5, -1), 8);
        for (int k = 0; k < 8; k++) {
            is("parameter " + k, x.parameter(5, k), k % 2 == 0 ? 31 : 0);
        }
        is("put after form", x.put(9), 1);
        for (int p = 0; p <= 31; p++) {
            ModeKeeper y = new ModeKeeper();
            is("put(" + p + ")", y.put(p), 1);
            y.form(0, 1);
            is("the parameter", y.parameter(0, 0), p);
        }
    }

    private static void form() {
        promise = "promise 7";
        ModeKeeper x = new ModeKeeper();
        is("form without text", x.form(1, 1), 13);
        is("form(0, 1)", make(x, 0, 1, 4), 0);
        is("form(255, 255)", make(x, 255, 255, 5, 6), 0);
        is("forms", x.value(11), 2);
        is("it is off", x.about(0, 1), 0);
        is("form(-1, 1)", make(x, -1, 1, 1), 13);
        is("form(256, 1)", make(x, 256, 1, 1), 13);
        is("form(7, 0)", make(x, 7, 0, 1), 13);
        is("form(7, 256)", make(x, 7, 256, 1), 13);
        is("form(7, -1)", make(x, 7, -1, 1), 13);
        for (int s : STRANGE) {
            is("form(" + s + ", 1)", make(x, s, 1, 1), 13);
            is("form(7, " + s + ")", make(x, 7, s, 1), 13);
        }
        is("form that is there", make(x, 0, 9, 7, 8), 11);
        is("it is as it was", x.about(0, 0), 1);
        is("it is as it was", x.parameter(0, -1), 1);
        is("it is as it was", x.parameter(0, 0), 4);
        is("form that is there, wrong every", make(x, 0, 0, 1), 13);
        is("form that is there, no text", x.form(0, 1), 13);
        is("the text is empty", x.put(1), 1);
        is("forms", x.value(11), 2);
    }

    private static void formWhenFull() {
        promise = "promise 7, eight forms";
        ModeKeeper x = withEightForms();
        is("a ninth", make(x, 200, 1, 1), 12);
        is("the text is empty", x.form(200, 1), 13);
        is("a ninth of a wrong id", make(x, 256, 1, 1), 13);
        is("a ninth of a wrong every", make(x, 200, 256, 1), 13);
        is("one that is there", make(x, 70, 1, 1), 11);
        is("forms", x.value(11), 8);
        is("about the ninth", x.about(200, 0), -1);
        for (int i = 0; i < 8; i++) {
            is("remove", x.remove(i * 10), 0);
            is("the place is used again", make(x, 201 + i, 3, 9, 9), 0);
            is("forms", x.value(11), 8);
            is("a ninth", make(x, 200, 1, 1), 12);
            is("how many", x.parameter(201 + i, -1), 2);
        }
    }

    private static void remove() {
        promise = "promise 8";
        ModeKeeper x = new ModeKeeper();
        is("remove without forms", x.remove(0), 14);
        is("remove(-1)", x.remove(-1), 14);
        make(x, 0, 2, 1);
        make(x, 9, 3, 2);
        is("remove(1)", x.remove(1), 14);
        is("remove(256)", x.remove(256), 14);
        for (int id : STRANGE) {
            is("remove(" + id + ")", x.remove(id), 14);
        }
        x.enable(9, true);
        is("remove of one that is on", x.remove(9), 15);
        is("it is there", x.about(9, 1), 1);
        is("forms", x.value(11), 2);
        is("remove", x.remove(0), 0);
        is("remove again", x.remove(0), 14);
        is("forms", x.value(11), 1);
        is("about", x.about(0, 0), -1);
        is("parameter", x.parameter(0, -1), -1);
        is("enable", x.enable(0, true), 14);
        is("the other is there", x.about(9, 0), 3);
        x.put(8);
        x.enable(9, false);
        is("remove", x.remove(9), 0);
        is("the text stays", x.put(8), 2);
        is("forms", x.value(11), 0);
        is("the id is free", x.form(9, 4), 0);
        is("it is off", x.about(9, 1), 0);
    }

    private static void enable() {
        promise = "promise 9";
        ModeKeeper x = new ModeKeeper();
        is("enable without forms", x.enable(0, true), 14);
        is("enable(-1)", x.enable(-1, false), 14);
        make(x, 0, 2, 1);
        make(x, 255, 2, 1);
        is("enable", x.enable(255, true), 0);
        is("it is on", x.about(255, 1), 1);
        is("the other is off", x.about(0, 1), 0);
        is("enable again", x.enable(255, true), 0);
        is("it is on", x.about(255, 1), 1);
        is("disable", x.enable(255, false), 0);
        is("it is off", x.about(255, 1), 0);
        is("disable again", x.enable(255, false), 0);
        is("it is off", x.about(255, 1), 0);
        is("enable(1)", x.enable(1, true), 14);
        for (int id : STRANGE) {
            is("enable(" + id + ")", x.enable(id, true), 14);
        }
    }

    private static void due() {
        promise = "promise 10";
        ModeKeeper x = new ModeKeeper();
        is("due without forms", x.due(0, 0), -1);
        make(x, 200, 2, 1);
        make(x, 0, 4, 1);
        make(x, 255, 1, 1);
        make(x, 100, 255, 1);
        is("due with all off", x.due(0, 0), -1);
        x.enable(200, true);
        x.enable(0, true);
        x.enable(100, true);
        is("due(0, 0)", x.due(0, 0), 0);
        is("due(0, 1)", x.due(0, 1), 100);
        is("due(0, 100)", x.due(0, 100), 100);
        is("due(0, 101)", x.due(0, 101), 200);
        is("due(0, 201)", x.due(0, 201), -1);
        is("due(2, 0)", x.due(2, 0), 200);
        is("due(1, 0)", x.due(1, 0), -1);
        is("due(-255, 0)", x.due(-255, 0), 100);
        is("due(-254, 0)", x.due(-254, 0), 200);
        is("due(-8, least)", x.due(-8, Integer.MIN_VALUE), 0);
        is("due(8, -1)", x.due(8, -1), 0);
        is("due(least, 0)", x.due(Integer.MIN_VALUE, 0), 0);
        is("due(greatest, 0)", x.due(Integer.MAX_VALUE, 0), -1);
        x.enable(255, true);
        is("due(greatest, 0)", x.due(Integer.MAX_VALUE, 0), 255);
        is("due(1, 255)", x.due(1, 255), 255);
        is("due(1, 256)", x.due(1, 256), -1);
        is("due(1, greatest)", x.due(1, Integer.MAX_VALUE), -1);
        x.enable(0, false);
        is("due with one off", x.due(0, 0), 100);
        x.remove(0);
        is("due with one gone", x.due(0, 0), 100);
        x.enter(0);
        is("due in mode 0", x.due(0, 0), 100);
    }

    private static void parameter() {
        promise = "promise 11";
        ModeKeeper x = new ModeKeeper();
        is("parameter without forms", x.parameter(0, -1), -1);
        is("parameter(-1, -1)", x.parameter(-1, -1), -1);
        is("parameter(-1, 0)", x.parameter(-1, 0), -1);
        make(x, 0, 1, 31, 0, 17);
        make(x, 1, 1, 9);
        is("how many", x.parameter(0, -1), 3);
        is("parameter 0", x.parameter(0, 0), 31);
        is("parameter 1", x.parameter(0, 1), 0);
        is("parameter 2", x.parameter(0, 2), 17);
        is("parameter 3", x.parameter(0, 3), -1);
        is("parameter 8", x.parameter(0, 8), -1);
        is("parameter -2", x.parameter(0, -2), -1);
        is("how many", x.parameter(1, -1), 1);
        is("parameter 1 of 1", x.parameter(1, 1), -1);
        is("of no form", x.parameter(2, 0), -1);
        for (int s : STRANGE) {
            is("parameter(0, " + s + ")", x.parameter(0, s), -1);
            is("parameter(" + s + ", 0)", x.parameter(s, 0), -1);
        }
        x.put(5);
        is("the text is not the form's", x.parameter(0, 0), 31);
        x.remove(0);
        x.form(3, 1);
        is("a shorter form in the same place", x.parameter(3, -1), 1);
        is("a shorter form in the same place", x.parameter(3, 0), 5);
        is("a shorter form in the same place", x.parameter(3, 1), -1);
    }

    private static void value() {
        promise = "promise 12";
        ModeKeeper x = new ModeKeeper();
        for (int a = 0; a < 8; a++) {
            x.move(a, 60 + a);
        }
        x.enter(2);
        x.alarm(44);
        for (int i = 0; i < 4; i++) {
            make(x, i, 1, i);
        }
        actuatorsAre(x, "after move", 60, 61, 62, 63, 64, 65, 66, 67);
        is("mode", x.value(8), 2);
        is("alarm", x.value(9), 44);
        is("changes", x.value(10), 1);
        is("forms", x.value(11), 4);
        is("value(12)", x.value(12), 0);
        is("value(-1)", x.value(-1), 0);
        for (int what : STRANGE) {
            is("value(" + what + ")", x.value(what), 0);
        }
        ModeKeeper y = new ModeKeeper();
        for (int i = 0; i < 500; i++) {
            y.enter(i % 2);
        }
        is("500 changes", y.value(10), 500);
    }

    private static void about() {
        promise = "promise 13";
        ModeKeeper x = new ModeKeeper();
        is("about without forms", x.about(0, 0), -1);
        is("about(-1, 1)", x.about(-1, 1), -1);
        make(x, 0, 255, 1);
        make(x, 255, 1, 1);
        x.enable(0, true);
        is("every", x.about(0, 0), 255);
        is("on", x.about(0, 1), 1);
        is("every", x.about(255, 0), 1);
        is("off", x.about(255, 1), 0);
        is("about(0, 2)", x.about(0, 2), -1);
        is("about(0, -1)", x.about(0, -1), -1);
        is("about(1, 0)", x.about(1, 0), -1);
        is("about(1, 1)", x.about(1, 1), -1);
        for (int s : STRANGE) {
            is("about(0, " + s + ")", x.about(0, s), -1);
            is("about(" + s + ", 0)", x.about(s, 0), -1);
        }
    }

    public static void main(String[] args) {
        newObject();
        objectsStandAlone();
        move();
        enter();
        actuatorsOfChanges();
        alarm();
        look();
        put();
        form();
        formWhenFull();
        remove();
        enable();
        due();
        parameter();
        value();
        about();
        System.out.println(wrong == 0 ? "all answers are as due" : wrong + " answers are not as due");
        if (wrong != 0) {
            System.exit(1);
        }
    }
}
