import java.util.Random;

/** Runs of calls by chance (with told seeds), compared with the Model. */
public final class ModelTest {
    private static final String[] PATTERNS = {"", "*", "a1", "b?", "?1", "*x", "x*", "*x*", "*$*", "$", "R*: *", "?*?",
        "*l*o", "**", "z9", "$*", "*$", "re:*", "*e*e*", "hello", "news", "*a*b*"};
    private final Random random;
    private final Mails mails;
    private final Both both = new Both();

    private ModelTest(int seed) {
        random = new Random(seed);
        mails = new Mails(random);
    }

    private int near(int most) {
        int kind = random.nextInt(200);
        if (kind == 0) {
            return new int[] {Integer.MIN_VALUE, Integer.MAX_VALUE, -1, random.nextInt()}[random.nextInt(4)];
        }
        return kind < 5 ? random.nextInt(most + 5) - 2 : random.nextInt(most + 1);
    }

    private char sign(String all) {
        return random.nextInt(60) == 0 ? (char) random.nextInt(130) : all.charAt(random.nextInt(all.length()));
    }

    private void addRule() {
        both.word(PATTERNS[random.nextInt(PATTERNS.length)]);
        char action = sign("kkrrdmxnn");
        int n = action == 'm' ? near(15) : action == 'n' ? near(5) : near(3);
        both.call("addRule", near(5), sign("fssitza"), random.nextInt(4) == 0, action, n);
    }

    private void setUp() {
        for (String address : new String[] {"a1", "b2", "c3", "d4"}) {
            if (random.nextInt(6) > 0) {
                both.call("addPerson", address.charAt(0), address.charAt(1) - '0');
            }
        }
        for (int left = random.nextInt(7); left > 0; left--) {
            both.call("addScript");
        }
        for (int left = random.nextInt(25); left > 0; left--) {
            addRule();
        }
        for (int person = 0; person < 4; person++) {
            both.call("setScript", person, random.nextInt(6));
        }
        for (int box = 0; box < 4; box++) {
            both.call("grant", near(3), box, near(3), near(7));
        }
    }

    private void send() {
        both.tape(mails.message());
        int message = both.number("send");
        if (message >= 0) {
            both.compareMessage(message);
        }
    }

    private void person() {
        switch (random.nextInt(7)) {
            case 0 -> both.call("addPerson", sign("abcd"), near(9));
            case 1 -> both.call("setQuota", near(3), random.nextInt(3) == 0 ? -1 : near(1500));
            case 2, 3 -> both.call("setHoliday", near(3), near(20), near(60), near(9));
            case 4 -> both.call("pass", random.nextInt(20) == 0 ? near(99) : 1 + random.nextInt(5));
            case 5 -> both.call("setScript", near(3), near(6) - 1);
            default -> both.call("grant", near(3), near(3), near(3), near(7));
        }
    }

    private void script() {
        switch (random.nextInt(6)) {
            case 0 -> both.call("addScript");
            case 1 -> both.call("dropRules", near(5));
            case 2 -> both.call("word", sign("ax?*$"));
            default -> addRule();
        }
    }

    private void session() {
        int session = near(4);
        int place = near(5);
        switch (random.nextInt(14)) {
            case 0 -> both.call("open", near(3), near(3), near(3));
            case 1 -> both.call(random.nextInt(8) == 0 ? "close" : "sees", session);
            case 2 -> both.call("numberAt", session, place);
            case 3 -> both.call("flagsAt", session, place);
            case 4, 5, 6 -> both.call("setFlags", session, place, near(15));
            case 7 -> both.call("remove", session, place);
            case 8, 9 -> both.call("move", session, place, near(3));
            case 10 -> both.call("told", session);
            default -> find(session);
        }
    }

    private void find(int session) {
        char by = sign("fsgtz");
        if (by == 's') {
            both.word(new String[] {"x", "re", "e", "hello", "", "#"}[random.nextInt(6)]);
        }
        int n = by == 'f' ? 11 * near(3) + 1 : by == 'g' ? near(15) : by == 't' ? near(19) : near(400);
        both.call("find", session, by, n);
        both.call("find", session, by, random.nextInt(9) == 0 ? random.nextInt() : n);
    }

    private int run() {
        setUp();
        for (int left = 150; left > 0; left--) {
            int kind = random.nextInt(20);
            if (kind < 3) {
                send();
            } else if (kind < 6) {
                person();
            } else if (kind < 8) {
                script();
            } else {
                session();
            }
        }
        both.compareAll();
        return both.wrong();
    }

    public static void main(String[] args) {
        int first = args.length > 0 ? Integer.parseInt(args[0]) : 1;
        int last = args.length > 1 ? Integer.parseInt(args[1]) : 3000;
        for (int seed = first; seed <= last; seed++) {
            ModelTest test = new ModelTest(seed);
            if (test.run() > 0) {
                System.out.println("ModelTest: the run of the seed " + seed + " has wrong answers");
                System.exit(1);
            }
        }
        System.out.println("ModelTest: the runs of the seeds " + first + " to " + last + " are as the model has them");
    }
}
