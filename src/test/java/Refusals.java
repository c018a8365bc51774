/** A refused call: what it throws, and that afterwards every answer is as before it, at once, later and in the saved states. */
final class Refusals {
    interface Call {
        void make(FlowComputer x);
    }

    static final Class<?> INDEX = IndexOutOfBoundsException.class;
    static final Class<?> ARGUMENT = IllegalArgumentException.class;
    static final Class<?> STATE = IllegalStateException.class;

    private Refusals() {
    }

    /** Tried in each of the prepared states. */
    static void everywhere(String what, Class<?> due, Call call) {
        for (Prepared state : Prepared.values()) {
            in(state, what, due, call);
        }
    }

    static void in(Prepared state, String what, Class<?> due, Call call) {
        String name = state + ", " + what;
        FlowComputer x = state.make();
        Checks.throwsExactly(name, due, () -> call.make(x));
        Answers.same(name, Answers.of(x), state.answers());
        FlowComputer y = state.make();
        Checks.throwsExactly(name, due, () -> call.make(y));
        Answers.same(name + ", later", Prepared.laterOf(y), state.later());
        FlowComputer z = state.make();
        Checks.throwsExactly(name, due, () -> call.make(z));
        Answers.same(name + ", saved states", Prepared.earlierOf(z), state.earlier());
    }
}
