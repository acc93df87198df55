import java.util.ArrayList;
import java.util.List;

/** Ways to ask an object for all that it holds; each one is used on an object of its own, since the last one changes it. */
enum Probe {
    BOXES {
        @Override
        void ask(Answers answers, PostSieve post) {
            for (int person = 0; person < 4; person++) {
                askPerson(answers, post, person);
            }
            for (char what : "clfad".toCharArray()) {
                answers.add("counted " + what, () -> post.counted(what));
            }
            answers.add("threads", () -> post.threads());
            answers.add("meanParts", () -> post.meanParts());
        }
    },
    MESSAGES {
        @Override
        void ask(Answers answers, PostSieve post) {
            for (int asked = 0; asked < 20; asked++) {
                int message = asked;
                answers.add("parts " + message, () -> post.parts(message));
                answers.add("seal " + message, () -> post.seal(message));
                answers.add("subject " + message, () -> post.subject(message));
                answers.add("address " + message, () -> post.address(message, 1));
                answers.add("idOf " + message, () -> post.idOf(message));
                answers.add("thread " + message, () -> post.thread(message));
                answers.add("above " + message, () -> post.above(message));
                answers.add("isSame " + message, () -> post.isSame(message));
                answers.add("typeOf " + message, () -> post.typeOf(message, 1));
                answers.add("bytes " + message, () -> post.bytes(message, 0));
            }
        }
    },
    SESSIONS {
        @Override
        void ask(Answers answers, PostSieve post) {
            for (int asked = 0; asked < 5; asked++) {
                int session = asked;
                answers.add("sees " + session, () -> post.sees(session));
                for (int at = 0; at < 20; at++) {
                    int place = at;
                    answers.add("numberAt " + session + " " + place, () -> post.numberAt(session, place));
                    answers.add("flagsAt " + session + " " + place, () -> post.flagsAt(session, place));
                }
                answers.add("told " + session, () -> post.told(session));
            }
        }
    },
    /** Does what shows the tape, the word, the day, and what people and scripts are set to. */
    DEEDS {
        @Override
        void ask(Answers answers, PostSieve post) {
            answers.add("the word as a whole", () -> post.find(0, 's', 0));
            answers.add("the length of the word", () -> post.clear());
            answers.add("send", () -> post.send());
            answers.add("its seal, if it is the first one", () -> post.seal(0));
            answers.add("its seal, if it is the fifth one", () -> post.seal(4));
            answers.add("its bytes", () -> post.bytes(4, 0));
            answers.add("pass", () -> post.pass(1));
            for (int left = 3; left > 0; left--) {
                answers.add("the length of the tape", () -> post.feed(0x66726f6d, 0x3a62320a, 0x746f3a61, 0x312c6232, 0x2c63330a));
                answers.add("send", () -> post.send());
            }
            for (int person = 0; person < 4; person++) {
                askPerson(answers, post, person);
                askSettings(answers, post, person);
            }
            askRoom(answers, post);
        }
    };

    interface Ask {
        Object make();
    }

    /** What was asked and answered, a line each. */
    static final class Answers {
        private final List<String> lines = new ArrayList<>();

        void add(String what, Ask ask) {
            Object answer;
            try {
                answer = ask.make();
            } catch (RuntimeException thrown) {
                answer = thrown.getClass().getSimpleName();
            }
            lines.add(what + " answered " + answer);
        }
    }

    abstract void ask(Answers answers, PostSieve post);

    List<String> of(PostSieve post) {
        Answers answers = new Answers();
        ask(answers, post);
        return answers.lines;
    }

    private static void askPerson(Answers answers, PostSieve post, int person) {
        answers.add("room " + person, () -> post.room(person));
        answers.add("readShare " + person, () -> post.readShare(person));
        for (int asked = 0; asked < 4; asked++) {
            int box = asked;
            String of = " " + person + " " + box;
            answers.add("items" + of, () -> post.items(person, box));
            answers.add("the first item" + of, () -> post.itemAt(person, box, 0));
            answers.add("the third item" + of, () -> post.itemAt(person, box, 2));
            answers.add("mark" + of, () -> post.mark(person, box));
            answers.add("changedSince" + of, () -> post.changedSince(person, box, 1));
            answers.add("goneSince" + of, () -> post.goneSince(person, box, 1));
        }
    }

    private static void askSettings(Answers answers, PostSieve post, int person) {
        answers.add("setQuota " + person, () -> post.setQuota(person, -1));
        answers.add("setHoliday " + person, () -> post.setHoliday(person, 1, 0, 1));
        answers.add("setScript " + person, () -> post.setScript(person, -1));
        for (int other = 0; other < 4; other++) {
            for (int box = 0; box < 4; box++) {
                int[] asked = {box, other};
                answers.add("grant " + person + " " + box + " " + other,
                        () -> post.grant(person, asked[0], asked[1], 0));
            }
        }
    }

    /** How many of each kind can come yet, and how many rules there were. */
    private static void askRoom(Answers answers, PostSieve post) {
        for (int asked = 0; asked < 6; asked++) {
            int script = asked;
            answers.add("dropRules " + script, () -> post.dropRules(script));
            answers.add("addScript", () -> post.addScript());
            answers.add("open", () -> post.open(0, 0, 0));
            answers.add("addPerson", () -> post.addPerson('k', script));
        }
        answers.add("word", () -> post.word('x'));
        answers.add("feed", () -> post.feed(0, 0, 0, 0, 0));
        answers.add("cut", () -> post.cut(0));
    }
}
