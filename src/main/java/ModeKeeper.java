/**
 * How a spacecraft is at the moment: its mode, its actuators, an alarm that
 * brings the safe mode when its time has come, and forms that say which
 * numbers are told how often.
 */
public final class ModeKeeper {
    /** Nothing there. */
    public static final int NONE = -1;

    private static final int DONE = 0;
    private static final int FORM_IS_THERE = 11;
    private static final int FORMS_ARE_FULL = 12;
    private static final int FORM_IS_WRONG = 13;
    private static final int NO_SUCH_FORM = 14;
    private static final int FORM_IS_ON = 15;
    private static final int NO_SUCH_THING = 18;
    private static final int NOT_IN_THIS_MODE = 19;

    private static final int MODE_SAFE = 0;
    private static final int MODE_AT_FIRST = 1;
    private static final int MODE_HIGHEST = 2;

    private static final int ACTUATORS = 8;
    private static final int[] SAFE_ACTUATORS = {0, 0, 0, 0, 50, 50, 100, 1};

    private static final int FORMS = 8;
    private static final int PARAMETERS = 8;
    private static final int HIGHEST_ID = 255;
    private static final int HIGHEST_EVERY = 255;
    private static final int HIGHEST_PARAMETER = 31;

    private static final int WHAT_MODE = 8;
    private static final int WHAT_ALARM = 9;
    private static final int WHAT_CHANGES = 10;
    private static final int WHAT_FORMS = 11;

    private static final int ABOUT_EVERY = 0;
    private static final int ABOUT_ON = 1;

    /** A place for a form. All places are made once and used again. */
    private static final class Form {
        // Kept beside the id: no int could mark an empty place in the id
        // without a caller being able to ask for that very int.
        private boolean there = false;
        private int id = 0;
        private int every = 1;
        private boolean on = false;
        private int count = 0;
        private final int[] parameters = new int[PARAMETERS];
    }

    private final int[] actuators = new int[ACTUATORS];
    private int mode = MODE_AT_FIRST;
    private int changes = 0;

    // Kept beside the tick, as every int, NONE too, may be the alarm's tick.
    private boolean alarmIsSet = false;
    private int alarmTick = 0;

    private final int[] text = new int[PARAMETERS];
    private int textCount = 0;

    private final Form[] forms = new Form[FORMS];
    private int formCount = 0;

    public ModeKeeper() {
        for (int i = 0; i < FORMS; i++) {
            forms[i] = new Form();
        }
    }

    public int move(int a, int v) {
        if (!isActuator(a)) {
            return NO_SUCH_THING;
        }
        if (mode == MODE_SAFE) {
            return NOT_IN_THIS_MODE;
        }
        actuators[a] = v;
        return DONE;
    }

    public int enter(int m) {
        if (m < MODE_SAFE || m > MODE_HIGHEST) {
            return NO_SUCH_THING;
        }
        if (mode == MODE_SAFE && m == MODE_HIGHEST) {
            return NOT_IN_THIS_MODE;
        }
        changeMode(m);
        return DONE;
    }

    public boolean alarm(int tick) {
        if (alarmIsSet) {
            return false;
        }
        alarmIsSet = true;
        alarmTick = tick;
        return true;
    }

    public boolean look(int tick) {
        if (!alarmIsSet || alarmTick > tick) {
            return false;
        }
        alarmIsSet = false;
        return changeMode(MODE_SAFE);
    }

    public int put(int parameter) {
        if (parameter < 0 || parameter > HIGHEST_PARAMETER || textCount >= PARAMETERS) {
            return NONE;
        }
        text[textCount] = parameter;
        textCount++;
        return textCount;
    }

    public int form(int id, int every) {
        int failure = failureOfNewForm(id, every);
        if (failure == DONE) {
            fillEmptyPlace(id, every);
        }
        textCount = 0;
        return failure;
    }

    public int remove(int id) {
        Form f = find(id);
        if (f == null) {
            return NO_SUCH_FORM;
        }
        if (f.on) {
            return FORM_IS_ON;
        }
        f.there = false;
        formCount--;
        return DONE;
    }

    public int enable(int id, boolean on) {
        Form f = find(id);
        if (f == null) {
            return NO_SUCH_FORM;
        }
        f.on = on;
        return DONE;
    }

    public int due(int tick, int from) {
        int least = NONE;
        for (int i = 0; i < FORMS; i++) {
            Form f = forms[i];
            if (f.there && f.on && f.id >= from && divides(f.every, tick)
                    && (least == NONE || f.id < least)) {
                least = f.id;
            }
        }
        return least;
    }

    public int parameter(int id, int k) {
        Form f = find(id);
        if (f == null) {
            return NONE;
        }
        if (k == -1) {
            return f.count;
        }
        if (k < 0 || k >= f.count) {
            return NONE;
        }
        return f.parameters[k];
    }

    public int value(int what) {
        if (isActuator(what)) {
            return actuators[what];
        }
        switch (what) {
            case WHAT_MODE:
                return mode;
            case WHAT_ALARM:
                return alarmIsSet ? alarmTick : NONE;
            case WHAT_CHANGES:
                return changes;
            case WHAT_FORMS:
                return formCount;
            default:
                return 0;
        }
    }

    public int about(int id, int what) {
        Form f = find(id);
        if (f == null) {
            return NONE;
        }
        switch (what) {
            case ABOUT_EVERY:
                return f.every;
            case ABOUT_ON:
                return f.on ? 1 : 0;
            default:
                return NONE;
        }
    }

    private static boolean isActuator(int a) {
        return a >= 0 && a < ACTUATORS;
    }

    private static boolean divides(int every, int tick) {
        return every > 0 && tick % every == 0;
    }

    /** Answers whether that is a change. */
    private boolean changeMode(int m) {
        if (mode == m) {
            return false;
        }
        mode = m;
        changes++;
        if (m == MODE_SAFE) {
            System.arraycopy(SAFE_ACTUATORS, 0, actuators, 0, ACTUATORS);
        }
        return true;
    }

    private int failureOfNewForm(int id, int every) {
        if (textCount == 0 || every < 1 || every > HIGHEST_EVERY || id < 0 || id > HIGHEST_ID) {
            return FORM_IS_WRONG;
        }
        if (find(id) != null) {
            return FORM_IS_THERE;
        }
        if (formCount >= FORMS) {
            return FORMS_ARE_FULL;
        }
        return DONE;
    }

    private void fillEmptyPlace(int id, int every) {
        for (int i = 0; i < FORMS; i++) {
            Form f = forms[i];
            if (!f.there) {
                f.there = true;
                f.id = id;
                f.every = every;
                f.on = false;
                f.count = textCount;
                System.arraycopy(text, 0, f.parameters, 0, textCount);
                formCount++;
                return;
            }
        }
    }

    /** The form of that id, or null if there is none such. */
    private Form find(int id) {
        for (int i = 0; i < FORMS; i++) {
            Form f = forms[i];
            if (f.there && f.id == id) {
                return f;
            }
        }
        return null;
    }
}
