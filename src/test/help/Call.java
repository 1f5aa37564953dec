import java.util.function.ToIntFunction;

/** One call of the face, kept so that it can be made on any object and told in a message. A boolean counts 1 or 0. */
record Call(String said, ToIntFunction<ModeKeeper> made) {
    static Call move(int a, int v) {
        return new Call("move(" + a + ", " + v + ")", x -> x.move(a, v));
    }

    static Call enter(int m) {
        return new Call("enter(" + m + ")", x -> x.enter(m));
    }

    static Call alarm(int tick) {
        return new Call("alarm(" + tick + ")", x -> x.alarm(tick) ? 1 : 0);
    }

    static Call look(int tick) {
        return new Call("look(" + tick + ")", x -> x.look(tick) ? 1 : 0);
    }

    static Call put(int parameter) {
        return new Call("put(" + parameter + ")", x -> x.put(parameter));
    }

    static Call form(int id, int every) {
        return new Call("form(" + id + ", " + every + ")", x -> x.form(id, every));
    }

    static Call remove(int id) {
        return new Call("remove(" + id + ")", x -> x.remove(id));
    }

    static Call enable(int id, boolean on) {
        return new Call("enable(" + id + ", " + on + ")", x -> x.enable(id, on));
    }

    static Call due(int tick, int from) {
        return new Call("due(" + tick + ", " + from + ")", x -> x.due(tick, from));
    }

    static Call parameter(int id, int k) {
        return new Call("parameter(" + id + ", " + k + ")", x -> x.parameter(id, k));
    }

    static Call value(int what) {
        return new Call("value(" + what + ")", x -> x.value(what));
    }

    static Call about(int id, int what) {
        return new Call("about(" + id + ", " + what + ")", x -> x.about(id, what));
    }
}
