import java.util.ArrayList;
import java.util.Arrays;
import java.util.List;
import java.util.Random;
import java.util.TreeMap;

/** Runs of 512 drawn calls, each answer against a model that is built otherwise. The seeds are fixed. */
public final class ModelTest {
    private static final int RUNS = 4000;
    private static final int CALLS = 512;
    private static final int NONE = -1;
    private static final int[] EDGES = {
        Integer.MIN_VALUE, -256, -2, -1, 0, 1, 2, 3, 7, 8, 9, 31, 32, 254, 255, 256, Integer.MAX_VALUE};

    private record Form(int every, List<Integer> parameters, boolean on) { }

    /** The document's words over the library's collections. */
    private static final class Model {
        final TreeMap<Integer, Form> forms = new TreeMap<>();
        final List<Integer> text = new ArrayList<>();
        Integer[] actuators = {0, 0, 0, 0, 0, 0, 0, 0};
        int mode = 1;
        int changes = 0;
        Integer alarm = null;

        boolean become(int m) {
            boolean change = m != mode;
            mode = m;
            if (change) {
                changes++;
                if (m == 0) {
                    actuators = new Integer[] {0, 0, 0, 0, 50, 50, 100, 1};
                }
            }
            return change;
        }

        int move(int a, int v) {
            if (!List.of(0, 1, 2, 3, 4, 5, 6, 7).contains(a)) return 18;
            if (mode == 0) return 19;
            actuators[a] = v;
            return 0;
        }

        int enter(int m) {
            if (!List.of(0, 1, 2).contains(m)) return 18;
            if (mode == 0 && m == 2) return 19;
            become(m);
            return 0;
        }

        int alarm(int tick) {
            if (alarm != null) return 0;
            alarm = tick;
            return 1;
        }

        int look(int tick) {
            if (alarm == null || tick < alarm) return 0;
            alarm = null;
            return become(0) ? 1 : 0;
        }

        int put(int parameter) {
            if (parameter < 0 || parameter >= 32 || text.size() == 8) return NONE;
            text.add(parameter);
            return text.size();
        }

        int form(int id, int every) {
            List<Integer> parameters = List.copyOf(text);
            text.clear();
            if (parameters.isEmpty() || every < 1 || every >= 256 || id < 0 || id >= 256) return 13;
            if (forms.containsKey(id)) return 11;
            if (forms.size() == 8) return 12;
            forms.put(id, new Form(every, parameters, false));
            return 0;
        }

        int remove(int id) {
            if (!forms.containsKey(id)) return 14;
            if (forms.get(id).on()) return 15;
            forms.remove(id);
            return 0;
        }

        int enable(int id, boolean on) {
            Form f = forms.get(id);
            if (f == null) return 14;
            forms.put(id, new Form(f.every(), f.parameters(), on));
            return 0;
        }

        int due(int tick, int from) {
            for (var e : forms.tailMap(from, true).entrySet()) {
                if (e.getValue().on() && Math.floorMod(tick, e.getValue().every()) == 0) return e.getKey();
            }
            return NONE;
        }

        int parameter(int id, int k) {
            Form f = forms.get(id);
            if (f == null) return NONE;
            if (k == -1) return f.parameters().size();
            return k >= 0 && k < f.parameters().size() ? f.parameters().get(k) : NONE;
        }

        int value(int what) {
            if (what >= 0 && what <= 7) return actuators[what];
            if (what == 8) return mode;
            if (what == 9) return alarm == null ? NONE : alarm;
            if (what == 10) return changes;
            return what == 11 ? forms.size() : 0;
        }

        int about(int id, int what) {
            Form f = forms.get(id);
            if (f == null) return NONE;
            if (what == 0) return f.every();
            return what == 1 ? (f.on() ? 1 : 0) : NONE;
        }
    }

    /** Mostly small numbers, so that calls meet; edges and any int now and then. */
    private static int draw(Random r, int low, int high) {
        int kind = r.nextInt(20);
        if (kind == 0) return r.nextInt();
        if (kind <= 2) return EDGES[r.nextInt(EDGES.length)];
        return low + r.nextInt(high - low + 1);
    }

    private static int drawId(Random r) {
        return draw(r, 0, 11) * (r.nextInt(8) == 0 ? 1 : 23);
    }

    private static int[] callBoth(ModeKeeper x, Model m, Random r, StringBuilder said) {
        int call = r.nextInt(20);
        int id = drawId(r);
        int a;
        int b;
        switch (call) {
            case 0: a = draw(r, -1, 8); b = r.nextInt();
                said.append("move(" + a + ", " + b + ")");
                return new int[] {x.move(a, b), m.move(a, b)};
            case 1: a = draw(r, -1, 3);
                said.append("enter(" + a + ")");
                return new int[] {x.enter(a), m.enter(a)};
            case 2: a = draw(r, -2, 20);
                said.append("alarm(" + a + ")");
                return new int[] {x.alarm(a) ? 1 : 0, m.alarm(a)};
            case 3: a = draw(r, -2, 20);
                said.append("look(" + a + ")");
                return new int[] {x.look(a) ? 1 : 0, m.look(a)};
            case 4: case 5: case 6: case 7: a = draw(r, 0, 31);
                said.append("put(" + a + ")");
                return new int[] {x.put(a), m.put(a)};
            case 8: case 9: a = draw(r, 1, 6);
                said.append("form(" + id + ", " + a + ")");
                return new int[] {x.form(id, a), m.form(id, a)};
            case 10:
                said.append("remove(" + id + ")");
                return new int[] {x.remove(id), m.remove(id)};
            case 11: case 12: boolean on = r.nextInt(3) != 0;
                said.append("enable(" + id + ", " + on + ")");
                return new int[] {x.enable(id, on), m.enable(id, on)};
            case 13: case 14: a = draw(r, -30, 30);
                said.append("due(" + a + ", " + id + ")");
                return new int[] {x.due(a, id), m.due(a, id)};
            case 15: case 16: a = draw(r, -1, 8);
                said.append("parameter(" + id + ", " + a + ")");
                return new int[] {x.parameter(id, a), m.parameter(id, a)};
            case 17: case 18: a = draw(r, 0, 11);
                said.append("value(" + a + ")");
                return new int[] {x.value(a), m.value(a)};
            default: a = draw(r, 0, 1);
                said.append("about(" + id + ", " + a + ")");
                return new int[] {x.about(id, a), m.about(id, a)};
        }
    }

    /** Answers whether the run was as due; a run is told up to its first wrong answer. */
    private static boolean run(long seed) {
        Random r = new Random(seed);
        ModeKeeper x = new ModeKeeper();
        Model m = new Model();
        for (int i = 0; i < CALLS; i++) {
            StringBuilder said = new StringBuilder();
            int[] answers = callBoth(x, m, r, said);
            if (answers[0] != answers[1]) {
                System.out.println("seed " + seed + ", call " + i + ": " + said + " answered "
                    + answers[0] + ", due is " + answers[1] + "; actuators " + Arrays.toString(m.actuators)
                    + ", mode " + m.mode + ", alarm " + m.alarm + ", text " + m.text + ", forms " + m.forms);
                return false;
            }
        }
        return true;
    }

    public static void main(String[] args) {
        int wrong = 0;
        for (long seed = 1; seed <= RUNS && wrong < 10; seed++) {
            if (!run(seed)) {
                wrong++;
            }
        }
        System.out.println(wrong == 0 ? "all runs are as due" : wrong + " runs are not as due");
        if (wrong != 0) {
            System.exit(1);
        }
    }
}
