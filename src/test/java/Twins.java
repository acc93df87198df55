import java.util.ArrayList;
import java.util.List;

/** Objects with one past: what is refused to one of them must leave it as its twin, to which nothing was refused. */
final class Twins {
    interface Past {
        Check make();
    }

    interface Call {
        Object make(PostSieve post);
    }

    private final Past past;
    private final List<List<String>> untouched = new ArrayList<>();

    Twins(Past past) {
        this.past = past;
        for (Probe probe : Probe.values()) {
            untouched.add(probe.of(past.make().post));
        }
    }

    /** The call throws this, and whatever is asked behind it is as if it had never been made. */
    void refused(String what, Class<?> due, Call call) {
        unchanged(what, due, call);
    }

    /** The call is answered so, and whatever is asked behind it is as if it had never been made. */
    void unchanged(String what, Object due, Call call) {
        for (Probe probe : Probe.values()) {
            PostSieve post = past.make().post;
            Check.answered(what, due, () -> call.make(post));
            Check.due(what + " has changed", "nothing", firstOther(untouched.get(probe.ordinal()), probe.of(post)));
        }
    }

    /** The call is answered so, on an object of its own. */
    void answered(String what, Object due, Call call) {
        PostSieve post = past.make().post;
        Check.answered(what, due, () -> call.make(post));
    }

    private static String firstOther(List<String> due, List<String> got) {
        for (int line = 0; line < due.size(); line++) {
            if (line >= got.size() || !due.get(line).equals(got.get(line))) {
                return line < got.size() ? got.get(line) + ", for " + due.get(line) : "less";
            }
        }
        return "nothing";
    }

    /** Numbers below 0 and from a number on, near to it and far from it. */
    static int[] outside(int count) {
        return new int[] {Integer.MIN_VALUE, -1, count, count + 1, Integer.MAX_VALUE};
    }
}
