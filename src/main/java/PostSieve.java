import java.util.NoSuchElementException;

/** A mail engine: messages told in bytes, boxes, sessions, filters, holidays and threads. */
public final class PostSieve {
    private static final int MOST_BYTES = 2000;
    private static final int MOST_PEOPLE = 4;
    private static final int MOST_BOXES = 4;
    private static final int MOST_MESSAGES = 20;
    private static final int MOST_PARTS = 20;
    private static final int MOST_DEPTH = 6;
    private static final int MOST_TO = 4;
    private static final int MOST_REFS = 6;
    private static final int MOST_DIGITS = 6;
    private static final int MOST_SHOWN = 60;
    private static final int MOST_WORD = 12;
    private static final int MOST_SCRIPTS = 6;
    private static final int MOST_RULES = 6;
    private static final int MOST_TRIED = 60;
    private static final int MOST_DELIVERIES = 30;
    private static final int MOST_SESSIONS = 5;
    private static final int MOST_CAPTURED = 20;
    private static final int MOST_QUOTA = 99999;
    private static final int MOST_DAYS = 99;
    private static final int ADDRESSES = 260;
    private static final int ALL_FLAGS = 15;
    private static final int ALL_RIGHTS = 7;
    private static final int MAY_READ = 1;
    private static final int MAY_FLAG = 2;
    private static final int MAY_REMOVE = 4;
    private static final int READ_FLAG = 1;
    private static final char MULTI = 'm';
    private static final char WRAP = 'w';
    private static final char TEXT = 't';

    private final Row tape = new Row(MOST_BYTES);
    private final Row word = new Row(MOST_WORD);
    private final Message[] messages = new Message[MOST_MESSAGES];
    private final Session[] sessions = new Session[MOST_SESSIONS];
    private final Copyist copyist = new Copyist();
    private final Reader reader = copyist.reader;
    private final Delivery delivery = new Delivery();
    private final Person[] people = delivery.people;
    private final Script[] scripts = delivery.scripts;
    private final Threads joined = new Threads();
    private int personCount;
    private int messageCount;
    private int scriptCount;
    private int sessionCount;
    private int today;

    public PostSieve() {
        for (int message = 0; message < MOST_MESSAGES; message++) {
            messages[message] = new Message();
        }
        for (int session = 0; session < MOST_SESSIONS; session++) {
            sessions[session] = new Session();
        }
    }

    public int feed(int a, int b, int c, int d, int e) throws UnsupportedOperationException {
        if (tape.length + 20 > MOST_BYTES) {
            throw new UnsupportedOperationException("the tape has no room");
        }
        tape.addFour(a);
        tape.addFour(b);
        tape.addFour(c);
        tape.addFour(d);
        tape.addFour(e);
        return tape.length;
    }

    public int cut(int length) throws IllegalArgumentException {
        if (length < 0 || length > tape.length) {
            throw new IllegalArgumentException("no such length of the tape");
        }
        int cutOff = tape.length - length;
        tape.length = length;
        return cutOff;
    }

    public int addPerson(char letter, int digit)
            throws IllegalArgumentException, UnsupportedOperationException, IllegalStateException {
        if (letter < 'a' || letter > 'z' || digit < 0 || digit > 9) {
            throw new IllegalArgumentException("no such address");
        }
        int address = 10 * (letter - 'a') + digit;
        for (int person = 0; person < personCount; person++) {
            if (people[person].address == address) {
                throw new UnsupportedOperationException("another person has the address");
            }
        }
        if (personCount >= MOST_PEOPLE) {
            throw new IllegalStateException("there are 4 people");
        }
        people[personCount].address = address;
        personCount++;
        return personCount - 1;
    }

    public int setQuota(int person, int quota) throws IndexOutOfBoundsException, IllegalArgumentException {
        Person owner = needPerson(person);
        if (quota < -1 || quota > MOST_QUOTA) {
            throw new IllegalArgumentException("no such quota");
        }
        int before = owner.quota;
        owner.quota = quota;
        return before;
    }

    public int setHoliday(int person, int from, int to, int days)
            throws IndexOutOfBoundsException, IllegalArgumentException {
        Person away = needPerson(person);
        if (days < 1 || days > MOST_DAYS) {
            throw new IllegalArgumentException("no such number of days");
        }
        away.holidayFrom = from;
        away.holidayTo = to;
        away.holidayDays = days;
        return away.answers;
    }

    public int pass(int days) throws IllegalArgumentException {
        if (days < 1 || days > MOST_DAYS) {
            throw new IllegalArgumentException("no such number of days");
        }
        today += days;
        return today;
    }

    public int send() throws IllegalStateException {
        if (messageCount >= MOST_MESSAGES) {
            throw new IllegalStateException("there are 20 messages");
        }
        Message message = messages[messageCount];
        message.number = messageCount;
        message.data.take(tape);
        tape.length = 0;
        reader.read(message);
        messageCount++;
        joined.join(messages, messageCount);
        delivery.deliver(message, today);
        return message.number;
    }

    public int word(char sign) throws IllegalArgumentException, IllegalStateException {
        if (sign < 32 || sign > 126) {
            throw new IllegalArgumentException("no such sign");
        }
        if (word.length >= MOST_WORD) {
            throw new IllegalStateException("the word has 12 signs");
        }
        word.add(sign);
        return word.length;
    }

    public int clear() {
        int length = word.length;
        word.length = 0;
        return length;
    }

    public int addScript() throws IllegalStateException {
        if (scriptCount >= MOST_SCRIPTS) {
            throw new IllegalStateException("there are 6 scripts");
        }
        scripts[scriptCount].isThere = true;
        scriptCount++;
        return scriptCount - 1;
    }

    public int addRule(int script, char test, boolean isTurned, char action, int n)
            throws IndexOutOfBoundsException, IllegalArgumentException, IllegalStateException {
        Script changed = needScript(script);
        if (!isTest(test) || !isAction(action)) {
            throw new IllegalArgumentException("no such test or action");
        }
        if (mostOf(action) >= 0 && (n < 0 || n > mostOf(action))) {
            throw new IllegalArgumentException("the number is out of range");
        }
        if (changed.count >= MOST_RULES) {
            throw new IllegalStateException("the script has 6 rules");
        }
        changed.put(test, isTurned, action, n, word);
        word.length = 0;
        return changed.count;
    }

    public int dropRules(int script) throws IndexOutOfBoundsException {
        Script changed = needScript(script);
        int count = changed.count;
        changed.count = 0;
        return count;
    }

    public int setScript(int person, int script) throws IndexOutOfBoundsException {
        Person owner = needPerson(person);
        if (script < -1 || script >= scriptCount) {
            throw new IndexOutOfBoundsException("no such script");
        }
        int before = owner.script;
        owner.script = script;
        return before;
    }

    public int parts(int message) throws IndexOutOfBoundsException {
        return needMessage(message).partCount;
    }

    public char typeOf(int message, int part) throws IndexOutOfBoundsException {
        return needPart(message, part).types[part];
    }

    public int parentOf(int message, int part) throws IndexOutOfBoundsException, NoSuchElementException {
        Message whole = needPart(message, part);
        if (part == 0) {
            throw new NoSuchElementException("the message itself is in no part");
        }
        return whole.parents[part];
    }

    public int bytes(int message, int part) throws IndexOutOfBoundsException, UnsupportedOperationException {
        Message whole = needTextPart(message, part);
        return whole.turnedTo[part] - whole.turnedFrom[part];
    }

    public int byteAt(int message, int part, int index)
            throws IndexOutOfBoundsException, UnsupportedOperationException, NoSuchElementException {
        Message whole = needTextPart(message, part);
        if (index < 0 || index >= whole.turnedTo[part] - whole.turnedFrom[part]) {
            throw new NoSuchElementException("no such byte");
        }
        return whole.turned.at(whole.turnedFrom[part] + index);
    }

    public int subject(int message) throws IndexOutOfBoundsException {
        return needMessage(message).subject.length;
    }

    public char subjectAt(int message, int index) throws IndexOutOfBoundsException, NoSuchElementException {
        Row subject = needMessage(message).subject;
        if (index < 0 || index >= subject.length) {
            throw new NoSuchElementException("no such sign");
        }
        return (char) subject.at(index);
    }

    public int address(int message, int index) throws IndexOutOfBoundsException, NoSuchElementException {
        Message asked = needMessage(message);
        if (index < 0 || index > asked.toCount || index == 0 && asked.from < 0) {
            throw new NoSuchElementException("no such address");
        }
        return index == 0 ? asked.from : asked.to[index - 1];
    }

    public int idOf(int message) throws IndexOutOfBoundsException, NoSuchElementException {
        return needId(message);
    }

    public int seal(int message) throws IndexOutOfBoundsException {
        return needMessage(message).seal;
    }

    public boolean isSame(int message) throws IndexOutOfBoundsException {
        Message asked = needMessage(message);
        copyist.write(asked);
        reader.read(copyist.copy);
        return copyist.hasSameHead(asked) && copyist.hasSameParts(asked);
    }

    public int items(int person, int box) throws IndexOutOfBoundsException {
        return needBox(person, box).here;
    }

    public int itemAt(int person, int box, int index) throws IndexOutOfBoundsException, NoSuchElementException {
        Box asked = needBox(person, box);
        int number = asked.numberOf(index);
        if (number < 1) {
            throw new NoSuchElementException("no such item");
        }
        return 100 * number + asked.messageOf(number);
    }

    public int room(int person) throws IndexOutOfBoundsException {
        return needPerson(person).room;
    }

    public int mark(int person, int box) throws IndexOutOfBoundsException {
        return needBox(person, box).latest;
    }

    public int changedSince(int person, int box, int mark) throws IndexOutOfBoundsException {
        return needBox(person, box).countSince(mark, false);
    }

    public int goneSince(int person, int box, int mark) throws IndexOutOfBoundsException {
        return needBox(person, box).countSince(mark, true);
    }

    public int grant(int person, int box, int other, int rights)
            throws IndexOutOfBoundsException, IllegalArgumentException {
        if (person < 0 || person >= personCount || other < 0 || other >= personCount) {
            throw new IndexOutOfBoundsException("no such person");
        }
        Box granted = needBox(person, box);
        if (rights < 0 || rights > ALL_RIGHTS || person == other) {
            throw new IllegalArgumentException("no such rights");
        }
        int before = granted.rights[other];
        granted.rights[other] = rights;
        return before;
    }

    public int open(int reader, int person, int box)
            throws IndexOutOfBoundsException, UnsupportedOperationException, IllegalStateException {
        if (reader < 0 || reader >= personCount) {
            throw new IndexOutOfBoundsException("no such reader");
        }
        Box seen = needBox(person, box);
        if (reader != person && (seen.rights[reader] & MAY_READ) == 0) {
            throw new UnsupportedOperationException("the reader may not read");
        }
        if (sessionCount >= MOST_SESSIONS) {
            throw new IllegalStateException("there were 5 sessions");
        }
        sessions[sessionCount].begin(reader, person, box, seen);
        sessionCount++;
        return sessionCount - 1;
    }

    public int close(int session) throws NoSuchElementException {
        Session closed = needSession(session);
        closed.isOpen = false;
        return closed.count;
    }

    public int sees(int session) throws NoSuchElementException {
        return needSession(session).count;
    }

    public int numberAt(int session, int place) throws NoSuchElementException, IndexOutOfBoundsException {
        return needPlace(session, place).numbers[place];
    }

    public int flagsAt(int session, int place) throws NoSuchElementException, IndexOutOfBoundsException {
        return needPlace(session, place).flags[place];
    }

    public int setFlags(int session, int place, int flags) throws NoSuchElementException,
            IndexOutOfBoundsException, IllegalArgumentException, UnsupportedOperationException,
            IllegalStateException {
        Session seeing = needPlace(session, place);
        if (flags < 0 || flags > ALL_FLAGS) {
            throw new IllegalArgumentException("no such flags");
        }
        int number = needChangeable(seeing, place, MAY_FLAG);
        seeing.flags[place] = flags;
        return seeing.box.flag(number, flags);
    }

    public int remove(int session, int place) throws NoSuchElementException, IndexOutOfBoundsException,
            UnsupportedOperationException, IllegalStateException {
        Session seeing = needPlace(session, place);
        int number = needChangeable(seeing, place, MAY_REMOVE);
        int message = seeing.box.messageOf(number);
        seeing.box.take(number);
        people[seeing.owner].room -= lengthOf(message);
        return number;
    }

    public int move(int session, int place, int box) throws NoSuchElementException, IndexOutOfBoundsException,
            UnsupportedOperationException, IllegalStateException {
        Session seeing = needPlace(session, place);
        if (box < 0 || box >= MOST_BOXES || box == seeing.boxNumber) {
            throw new IndexOutOfBoundsException("no other box of this number");
        }
        int number = needChangeable(seeing, place, MAY_REMOVE);
        Box from = seeing.box;
        Box to = people[seeing.owner].boxes[box];
        int there = to.put(from.messageOf(number), from.flagsOf(number));
        from.take(number);
        return there;
    }

    public int told(int session) throws NoSuchElementException {
        return needSession(session).follow();
    }

    public int find(int session, char by, int n) throws NoSuchElementException, IllegalArgumentException {
        Session seeing = needSession(session);
        if (by != 'f' && by != 's' && by != 'g' && by != 't' && by != 'z') {
            throw new IllegalArgumentException("no such way to look");
        }
        int found = 0;
        for (int place = 0; place < seeing.count; place++) {
            if (isFound(seeing, place, by, n)) {
                found++;
            }
        }
        return found;
    }

    public int thread(int message) throws IndexOutOfBoundsException, NoSuchElementException {
        return joined.lowestId(needId(message));
    }

    public int above(int message) throws IndexOutOfBoundsException, NoSuchElementException {
        int parent = joined.parentId(needId(message));
        if (parent < 0) {
            throw new NoSuchElementException("the message has no parent");
        }
        return parent;
    }

    public int threads() {
        return joined.groupCount();
    }

    public int counted(char what) throws IllegalArgumentException {
        if (what == 'c') {
            return delivery.circles;
        }
        if (what == 'l') {
            return delivery.loops;
        }
        if (what == 'f') {
            return delivery.refused;
        }
        if (what == 'a') {
            return delivery.answers;
        }
        if (what == 'd') {
            return delivery.deliveries;
        }
        throw new IllegalArgumentException("no such thing is counted");
    }

    public float readShare(int person) throws IndexOutOfBoundsException, ArithmeticException {
        Person owner = needPerson(person);
        int all = 0;
        int read = 0;
        for (int box = 0; box < MOST_BOXES; box++) {
            all += owner.boxes[box].here;
            read += owner.boxes[box].countFlagged(READ_FLAG);
        }
        if (all == 0) {
            throw new ArithmeticException("the person has no items");
        }
        return (float) read / (float) all;
    }

    public double meanParts() throws ArithmeticException {
        if (messageCount == 0) {
            throw new ArithmeticException("there are no messages");
        }
        int all = 0;
        for (int message = 0; message < messageCount; message++) {
            all += messages[message].partCount;
        }
        return (double) all / (double) messageCount;
    }

    private Person needPerson(int person) {
        if (person < 0 || person >= personCount) {
            throw new IndexOutOfBoundsException("no such person");
        }
        return people[person];
    }

    private Box needBox(int person, int box) {
        Person owner = needPerson(person);
        if (box < 0 || box >= MOST_BOXES) {
            throw new IndexOutOfBoundsException("no such box");
        }
        return owner.boxes[box];
    }

    private Script needScript(int script) {
        if (script < 0 || script >= scriptCount) {
            throw new IndexOutOfBoundsException("no such script");
        }
        return scripts[script];
    }

    private Message needMessage(int message) {
        if (message < 0 || message >= messageCount) {
            throw new IndexOutOfBoundsException("no such message");
        }
        return messages[message];
    }

    private Message needPart(int message, int part) {
        Message whole = needMessage(message);
        if (part < 0 || part >= whole.partCount) {
            throw new IndexOutOfBoundsException("no such part");
        }
        return whole;
    }

    private Message needTextPart(int message, int part) {
        Message whole = needPart(message, part);
        if (whole.types[part] != TEXT) {
            throw new UnsupportedOperationException("the part is no text");
        }
        return whole;
    }

    private int needId(int message) {
        int id = needMessage(message).id;
        if (id < 0) {
            throw new NoSuchElementException("the message has no id");
        }
        return id;
    }

    private Session needSession(int session) {
        if (session < 0 || session >= sessionCount || !sessions[session].isOpen) {
            throw new NoSuchElementException("no such session is open");
        }
        return sessions[session];
    }

    private Session needPlace(int session, int place) {
        Session seeing = needSession(session);
        if (place < 0 || place >= seeing.count) {
            throw new IndexOutOfBoundsException("no such place");
        }
        return seeing;
    }

    /** Answers the number of the item at a place that the caller has looked at. */
    private int needChangeable(Session seeing, int place, int right) {
        if (!seeing.may(right)) {
            throw new UnsupportedOperationException("the reader may not do this");
        }
        int number = seeing.numbers[place];
        if (!seeing.box.holds(number)) {
            throw new IllegalStateException("the item is gone");
        }
        return number;
    }

    private int lengthOf(int message) {
        return message < 0 || message >= messageCount ? 0 : messages[message].data.length;
    }

    private boolean isFound(Session seeing, int place, char by, int n) {
        int number = seeing.box.messageOf(seeing.numbers[place]);
        if (number < 0 || number >= messageCount) {
            return false;
        }
        Message message = messages[number];
        if (by == 'f') {
            return message.from >= 0 && message.from == n;
        }
        if (by == 's') {
            return message.subject.contains(word);
        }
        if (by == 'g') {
            return (seeing.flags[place] & n) == n;
        }
        if (by == 'z') {
            return message.data.length > n;
        }
        return n >= 0 && n < messageCount && joined.isTogether(message.id, messages[n].id);
    }

    private static boolean isTest(char test) {
        return test == 'f' || test == 's' || test == 'i' || test == 't' || test == 'z' || test == 'a';
    }

    private static boolean isAction(char action) {
        return action == 'd' || action == 'x' || mostOf(action) >= 0;
    }

    /** Answers the greatest number of an action, or -1 if its number has no meaning. */
    private static int mostOf(char action) {
        if (action == 'k') {
            return MOST_BOXES - 1;
        }
        if (action == 'r') {
            return MOST_PEOPLE - 1;
        }
        if (action == 'm') {
            return ALL_FLAGS;
        }
        return action == 'n' ? MOST_SCRIPTS - 1 : -1;
    }

    private static boolean isBlank(int sign) {
        return sign == 32 || sign == 9;
    }

    private static boolean isDigit(int sign) {
        return sign >= '0' && sign <= '9';
    }

    private static boolean isSmall(int sign) {
        return sign >= 'a' && sign <= 'z';
    }

    private static boolean isCapital(int sign) {
        return sign >= 'A' && sign <= 'Z';
    }

    private static boolean isLetterOrDigit(int sign) {
        return isDigit(sign) || isSmall(sign) || isCapital(sign);
    }

    private static int lowered(int sign) {
        return sign >= 'A' && sign <= 'Z' ? sign + 32 : sign;
    }

    /** Answers the value of a digit of base 16, or -1. */
    private static int hexOf(int sign) {
        if (sign >= '0' && sign <= '9') {
            return sign - '0';
        }
        if (sign >= 'a' && sign <= 'f') {
            return sign - 'a' + 10;
        }
        return sign >= 'A' && sign <= 'F' ? sign - 'A' + 10 : -1;
    }

    /** A row of signs that grows; outside it lies NONE, so that a look ahead needs no test of its own. */
    private static final class Row {
        private static final int NONE = -1;
        private char[] signs;
        private int length;

        private Row(int capacity) {
            signs = new char[capacity < 0 ? 0 : capacity];
        }

        private int at(int place) {
            return place < 0 || place >= length ? NONE : signs[place];
        }

        private void add(int sign) {
            if (length >= signs.length) {
                char[] wider = new char[2 * signs.length + 16];
                System.arraycopy(signs, 0, wider, 0, signs.length);
                signs = wider;
            }
            signs[length] = (char) (sign & 255);
            length++;
        }

        private void addFour(int number) {
            add(number >>> 24);
            add(number >>> 16);
            add(number >>> 8);
            add(number);
        }

        private void addText(String text) {
            for (int place = 0; place < text.length(); place++) {
                add(text.charAt(place));
            }
        }

        private void addNumber(int number) {
            int unit = 1;
            while (unit <= number / 10 && unit < 100000000) {
                unit *= 10;
            }
            for (; unit > 0; unit /= 10) {
                add('0' + number / unit % 10);
            }
        }

        private void addRow(Row other, int from, int to) {
            for (int place = from; place < to; place++) {
                add(other.at(place));
            }
        }

        private void take(Row other) {
            length = 0;
            if (signs.length < other.length) {
                signs = new char[other.length];
            }
            addRow(other, 0, other.length);
        }

        private int placeOf(char sign, int from, int to) {
            for (int place = from; place < to; place++) {
                if (at(place) == sign) {
                    return place;
                }
            }
            return NONE;
        }

        private boolean hasText(String text, int from) {
            for (int place = 0; place < text.length(); place++) {
                if (at(from + place) != text.charAt(place)) {
                    return false;
                }
            }
            return true;
        }

        private boolean hasRow(Row other, int from) {
            for (int place = 0; place < other.length; place++) {
                if (at(from + place) != other.at(place)) {
                    return false;
                }
            }
            return true;
        }

        private boolean isText(String text) {
            return length == text.length() && hasText(text, 0);
        }

        private boolean contains(Row other) {
            for (int from = 0; from + other.length <= length; from++) {
                if (hasRow(other, from)) {
                    return true;
                }
            }
            return false;
        }

        private int behindBlanks(int from, int to) {
            int place = from;
            while (place < to && isBlank(at(place))) {
                place++;
            }
            return place;
        }

        private int aheadOfBlanks(int from, int to) {
            int end = to;
            while (end > from && isBlank(at(end - 1))) {
                end--;
            }
            return end;
        }
    }

    /** A message as it came, and what reading it found. */
    private static final class Message {
        private final Row data = new Row(0);
        private final Row turned = new Row(0);
        private final Row subject = new Row(MOST_SHOWN);
        private final Row list = new Row(MOST_SHOWN);
        private final char[] types = new char[MOST_PARTS];
        private final char[] codings = new char[MOST_PARTS];
        private final int[] parents = new int[MOST_PARTS];
        private final int[] turnedFrom = new int[MOST_PARTS];
        private final int[] turnedTo = new int[MOST_PARTS];
        private final int[] to = new int[MOST_TO];
        private final int[] refs = new int[MOST_REFS];
        private boolean hasList;
        private int number;
        private int partCount;
        private int from;
        private int toCount;
        private int id;
        private int refCount;
        private int seal;

        private boolean isFor(int address) {
            for (int place = 0; place < toCount; place++) {
                if (to[place] == address) {
                    return true;
                }
            }
            return false;
        }
    }

    /** Reads what a message holds; its rows are used again for each message. */
    private static final class Reader {
        private static final String SIGNS_OF_SIX_BITS =
                "ABCDEFGHIJKLMNOPQRSTUVWXYZabcdefghijklmnopqrstuvwxyz0123456789+/";
        private final Row value = new Row(MOST_BYTES);
        private final Row wanted = new Row(16);
        private final Row[] bounds = new Row[MOST_DEPTH + 1];

        private Reader() {
            for (int depth = 0; depth <= MOST_DEPTH; depth++) {
                bounds[depth] = new Row(16);
            }
        }

        private void read(Message message) {
            Row data = message.data;
            message.turned.length = 0;
            message.partCount = 0;
            int headTo = headEnd(data, 0, data.length);
            readPart(message, -1, 0, data.length, 1);
            readAddresses(message, headTo);
            readNumbers(message, headTo);
            readSubject(message, headTo);
            readList(message, headTo);
            message.seal = sealBody(sealHead(data, headTo), data, behindHead(headTo, data.length));
        }

        /** Answers where the first empty line stands, or the end. */
        private static int headEnd(Row data, int from, int to) {
            for (int place = from; place < to; place++) {
                if (data.at(place) == 10 && (place == from || data.at(place - 1) == 10)) {
                    return place;
                }
            }
            return to;
        }

        private static int behindHead(int headTo, int to) {
            return headTo < to ? headTo + 1 : to;
        }

        private void readPart(Message message, int parent, int from, int to, int depth) {
            int part = message.partCount;
            if (part >= MOST_PARTS || depth > MOST_DEPTH + 1) {
                return;
            }
            message.partCount++;
            Row data = message.data;
            int headTo = headEnd(data, from, to);
            int bodyFrom = behindHead(headTo, to);
            message.parents[part] = parent;
            message.types[part] = readType(data, from, headTo, depth);
            message.codings[part] = ' ';
            message.turnedFrom[part] = message.turned.length;
            if (message.types[part] == MULTI) {
                splitBody(message, part, bodyFrom, to, depth);
            } else if (message.types[part] == WRAP) {
                readPart(message, part, bodyFrom, to, depth + 1);
            } else {
                message.codings[part] = readCoding(data, from, headTo);
                turnBody(message, message.codings[part], bodyFrom, to);
            }
            message.turnedTo[part] = message.turned.length;
        }

        private void splitBody(Message message, int part, int from, int to, int depth) {
            Row bound = bounds[depth];
            int begin = -1;
            int line = from;
            for (int end = from; end <= to; end++) {
                if (end < to && message.data.at(end) != 10) {
                    continue;
                }
                char kind = boundKind(message.data, line, end, bound);
                if (kind != ' ' && begin >= 0) {
                    // The byte 10 ahead of the line is left out, but an empty part has none of its own.
                    readPart(message, part, begin, line - 1 < begin ? begin : line - 1, depth + 1);
                }
                if (kind == 'c') {
                    return;
                }
                line = end + 1;
                if (kind == 'o') {
                    begin = behindHead(end, to);
                }
            }
            if (begin >= 0) {
                readPart(message, part, begin, to, depth + 1);
            }
        }

        /** Answers 'o' for a line that opens a part, 'c' for one that closes the last one, or ' '. */
        private static char boundKind(Row data, int from, int to, Row bound) {
            int end = data.aheadOfBlanks(from, to);
            if (!data.hasText("--", from) || !data.hasRow(bound, from + 2)) {
                return ' ';
            }
            int behind = from + 2 + bound.length;
            if (end == behind) {
                return 'o';
            }
            return end == behind + 2 && data.hasText("--", behind) ? 'c' : ' ';
        }

        private char readType(Row data, int from, int headTo, int depth) {
            if (depth < 1 || depth > MOST_DEPTH || !readField(data, from, headTo, "type")) {
                return TEXT;
            }
            if (!value.hasText("multi", 0)) {
                return value.hasText("wrap", 0) ? WRAP : TEXT;
            }
            Row bound = bounds[depth];
            bound.length = 0;
            wanted.length = 0;
            wanted.addText("b");
            boolean isWhole = addParameter(bound);
            for (int piece = 0; !isWhole && piece < MOST_BYTES; piece++) {
                wanted.length = 0;
                wanted.addText("b*");
                wanted.addNumber(piece);
                isWhole = !addParameter(bound);
            }
            return bound.length > 0 ? MULTI : TEXT;
        }

        private char readCoding(Row data, int from, int headTo) {
            if (!readField(data, from, headTo, "coding")) {
                return ' ';
            }
            return value.isText("q") ? 'q' : value.isText("b") ? 'b' : ' ';
        }

        /** Adds the value of the parameter with the wanted name, and answers whether there is one. */
        private boolean addParameter(Row row) {
            for (int mark = 0; mark < value.length; mark++) {
                if (value.at(mark) != ';') {
                    continue;
                }
                int next = value.placeOf(';', mark + 1, value.length);
                int to = next < 0 ? value.length : next;
                int equals = value.placeOf('=', mark + 1, to);
                int name = value.behindBlanks(mark + 1, equals);
                int nameTo = value.aheadOfBlanks(name, equals);
                if (equals >= 0 && nameTo - name == wanted.length && value.hasRow(wanted, name)) {
                    int begin = value.behindBlanks(equals + 1, to);
                    row.addRow(value, begin, value.aheadOfBlanks(begin, to));
                    return true;
                }
            }
            return false;
        }

        /** Puts the value of the first field of a name into the row value, if there is one. */
        private boolean readField(Row data, int from, int headTo, String name) {
            int line = from;
            for (int end = from; end <= headTo; end++) {
                if (!isLineEnd(data, end, headTo)) {
                    continue;
                }
                int colon = data.placeOf(':', line, end);
                if (colon >= 0 && isNamed(data, line, colon, name)) {
                    readValue(data, colon + 1, end);
                    return true;
                }
                line = end + 1;
            }
            value.length = 0;
            return false;
        }

        private static boolean isLineEnd(Row data, int place, int headTo) {
            boolean goesOn = place + 1 < headTo && isBlank(data.at(place + 1));
            return place == headTo || data.at(place) == 10 && !goesOn;
        }

        private static boolean isNamed(Row data, int from, int to, String name) {
            int begin = from;
            while (begin < to && isGap(data.at(begin))) {
                begin++;
            }
            int end = to;
            while (end > begin && isGap(data.at(end - 1))) {
                end--;
            }
            if (end - begin != name.length()) {
                return false;
            }
            for (int place = 0; place < name.length(); place++) {
                if (lowered(data.at(begin + place)) != name.charAt(place)) {
                    return false;
                }
            }
            return true;
        }

        /** A byte 10 within a field is always ahead of a blank, so that it stands in a gap. */
        private static boolean isGap(int sign) {
            return sign == 10 || sign == 32 || sign == 9;
        }

        private void readValue(Row data, int from, int to) {
            value.length = 0;
            int depth = 0;
            for (int place = from; place < to; place++) {
                int sign = data.at(place);
                if (sign == '(') {
                    depth++;
                } else if (sign == ')' && depth > 0) {
                    depth--;
                } else if (depth == 0 && !isGap(sign)) {
                    value.add(sign);
                } else if (depth == 0 && sign != 10 && value.length > 0 && value.at(value.length - 1) != 32) {
                    value.add(32);
                }
            }
            if (value.at(value.length - 1) == 32) {
                value.length--;
            }
        }

        private void readAddresses(Message message, int headTo) {
            message.from = -1;
            readField(message.data, 0, headTo, "from");
            for (int place = 0; place < value.length && message.from < 0; place++) {
                message.from = addressAt(place);
            }
            message.toCount = 0;
            readField(message.data, 0, headTo, "to");
            for (int place = 0; place < value.length && message.toCount < MOST_TO; place++) {
                int address = addressAt(place);
                if (address >= 0 && !message.isFor(address)) {
                    message.to[message.toCount] = address;
                    message.toCount++;
                }
            }
        }

        private int addressAt(int place) {
            int letter = value.at(place);
            int digit = value.at(place + 1);
            boolean isAddress = isSmall(letter) && isDigit(digit)
                    && !isLetterOrDigit(value.at(place - 1)) && !isLetterOrDigit(value.at(place + 2));
            return isAddress ? 10 * (letter - 'a') + digit - '0' : -1;
        }

        private void readNumbers(Message message, int headTo) {
            readField(message.data, 0, headTo, "id");
            message.id = isDigit(value.at(0)) ? digitsAt(0) : -1;
            message.refCount = 0;
            readField(message.data, 0, headTo, "refs");
            for (int place = 0; place < value.length && message.refCount < MOST_REFS; place++) {
                if (isDigit(value.at(place)) && !isDigit(value.at(place - 1))) {
                    message.refs[message.refCount] = digitsAt(place);
                    message.refCount++;
                }
            }
        }

        private int digitsAt(int from) {
            int number = 0;
            for (int place = from; place < from + MOST_DIGITS && isDigit(value.at(place)); place++) {
                number = 10 * number + value.at(place) - '0';
            }
            return number;
        }

        private void readList(Message message, int headTo) {
            message.hasList = readField(message.data, 0, headTo, "list");
            message.list.length = 0;
            message.list.addRow(value, 0, value.length < MOST_SHOWN ? value.length : MOST_SHOWN);
        }

        private void readSubject(Message message, int headTo) {
            Row subject = message.subject;
            subject.length = 0;
            readField(message.data, 0, headTo, "subject");
            for (int place = 0; place < value.length && subject.length < MOST_SHOWN; place++) {
                int end = codedEnd(place);
                if (end < 0) {
                    subject.add(value.at(place));
                } else {
                    addCoded(subject, place + 4, end - 2);
                    place = value.at(end) == 32 && codedEnd(end + 1) >= 0 ? end : end - 1;
                }
            }
            subject.length = subject.length < MOST_SHOWN ? subject.length : MOST_SHOWN;
            for (int shown = 0; shown < subject.length; shown++) {
                if (subject.at(shown) < 32 || subject.at(shown) > 126) {
                    subject.signs[shown] = '#';
                }
            }
        }

        /** Answers the place behind the coded word that begins at a place, or -1. */
        private int codedEnd(int place) {
            if (!value.hasText("=?q?", place)) {
                return -1;
            }
            int end = place + 4;
            while (end < value.length && value.at(end) != '?' && !isBlank(value.at(end))) {
                end++;
            }
            return value.hasText("?=", end) ? end + 2 : -1;
        }

        private void addCoded(Row row, int from, int to) {
            for (int place = from; place < to; place++) {
                int coded = value.at(place) == '=' ? coded(value, place, to) : -1;
                if (coded >= 0) {
                    row.add(coded);
                    place += 2;
                } else {
                    row.add(value.at(place) == '_' ? 32 : value.at(place));
                }
            }
        }

        /** Answers the byte that the two signs behind a '=' stand for, or -1. */
        private static int coded(Row row, int place, int to) {
            if (place + 2 >= to) {
                return -1;
            }
            int high = hexOf(row.at(place + 1));
            int low = hexOf(row.at(place + 2));
            return high < 0 || low < 0 ? -1 : 16 * high + low;
        }

        private static void turnBody(Message message, char coding, int from, int to) {
            if (coding == 'q') {
                turnQ(message.data, from, to, message.turned);
            } else if (coding == 'b') {
                turnB(message.data, from, to, message.turned);
            } else {
                message.turned.addRow(message.data, from, to);
            }
        }

        private static void turnQ(Row data, int from, int to, Row turned) {
            for (int place = from; place < to; place++) {
                int sign = data.at(place);
                int coded = sign == '=' ? coded(data, place, to) : -1;
                int behind = sign == '=' ? data.behindBlanks(place + 1, to) : to;
                if (coded >= 0) {
                    turned.add(coded);
                    place += 2;
                } else if (behind < to && data.at(behind) == 10) {
                    place = behind;
                } else {
                    turned.add(sign);
                }
            }
        }

        private static void turnB(Row data, int from, int to, Row turned) {
            int bits = 0;
            int count = 0;
            for (int place = from; place < to && data.at(place) != '='; place++) {
                int six = sixBitsOf(data.at(place));
                if (six >= 0) {
                    bits = bits << 6 | six;
                    count++;
                }
                if (count == 4) {
                    turned.add(bits >>> 16);
                    turned.add(bits >>> 8);
                    turned.add(bits);
                    bits = 0;
                    count = 0;
                }
            }
            if (count == 2) {
                turned.add(bits >>> 4);
            } else if (count == 3) {
                turned.add(bits >>> 10);
                turned.add(bits >>> 2);
            }
        }

        private static int sixBitsOf(int sign) {
            if (isCapital(sign)) {
                return sign - 'A';
            }
            if (isSmall(sign)) {
                return sign - 'a' + 26;
            }
            if (isDigit(sign)) {
                return sign - '0' + 52;
            }
            return sign == '+' ? 62 : sign == '/' ? 63 : -1;
        }

        private static char signOf(int sixBits) {
            return SIGNS_OF_SIX_BITS.charAt(sixBits & 63);
        }

        private int sealHead(Row data, int headTo) {
            int seal = sealField(17, data, headTo, "from");
            seal = sealField(seal, data, headTo, "to");
            seal = sealField(seal, data, headTo, "subject");
            return sealField(seal, data, headTo, "id");
        }

        private int sealField(int before, Row data, int headTo, String name) {
            if (!readField(data, 0, headTo, name)) {
                return before;
            }
            int seal = before;
            for (int place = 0; place < name.length(); place++) {
                seal = 31 * seal + name.charAt(place);
            }
            seal = 31 * seal + ':';
            for (int place = 0; place < value.length; place++) {
                if (value.at(place) != 32) {
                    seal = 31 * seal + value.at(place);
                }
            }
            return 31 * seal + 10;
        }

        private static int sealBody(int before, Row data, int from) {
            int to = data.length;
            while (to > from && isGap(data.at(to - 1))) {
                to--;
            }
            int seal = before;
            for (int place = from; place < to; place++) {
                int behind = data.behindBlanks(place, to);
                for (int blank = place; blank < behind && data.at(behind) != 10; blank++) {
                    seal = 31 * seal + data.at(blank);
                }
                seal = 31 * seal + data.at(behind);
                place = behind;
            }
            return seal;
        }
    }

    /** Writes a message anew, and looks whether what is read then is the same. */
    private static final class Copyist {
        private final Reader reader = new Reader();
        private final Message copy = new Message();
        private final Row bound = new Row(16);
        private int boundMark;

        private void write(Message message) {
            copy.data.length = 0;
            boundMark = freeMark(message.data);
            writeHead(message);
            writePart(message, 0, 1);
        }

        /** No raw text may hold a line that could be taken for one of the boundaries. */
        private int freeMark(Row data) {
            int mark = 0;
            boolean isFree = false;
            while (!isFree && mark < MOST_BYTES) {
                bound.length = 0;
                bound.addText("--w");
                bound.addNumber(mark);
                bound.addText("p");
                isFree = !data.contains(bound);
                mark += isFree ? 0 : 1;
            }
            return mark;
        }

        private void writeHead(Message message) {
            int headTo = Reader.headEnd(message.data, 0, message.data.length);
            writeField(message.data, headTo, "from");
            writeField(message.data, headTo, "to");
            writeField(message.data, headTo, "subject");
            writeField(message.data, headTo, "id");
            writeField(message.data, headTo, "refs");
        }

        private void writeField(Row data, int headTo, String name) {
            if (reader.readField(data, 0, headTo, name)) {
                copy.data.addText(name);
                copy.data.add(':');
                copy.data.addRow(reader.value, 0, reader.value.length);
                copy.data.add(10);
            }
        }

        private void writePart(Message message, int part, int depth) {
            if (depth > MOST_DEPTH + 1) {
                return;
            }
            if (message.types[part] == MULTI) {
                writeMulti(message, part, depth);
            } else if (message.types[part] == WRAP) {
                copy.data.addText("type:wrap\n\n");
                writeWithin(message, part, depth);
            } else {
                writeBody(message, part);
            }
        }

        private void writeMulti(Message message, int part, int depth) {
            copy.data.addText("type:multi;b=");
            writeBound(part);
            copy.data.addText("\n\n");
            for (int within = part + 1; within < message.partCount; within++) {
                if (message.parents[within] == part) {
                    copy.data.addText("--");
                    writeBound(part);
                    copy.data.add(10);
                    writePart(message, within, depth + 1);
                    copy.data.add(10);
                }
            }
            copy.data.addText("--");
            writeBound(part);
            copy.data.addText("--");
        }

        private void writeBound(int part) {
            copy.data.add('w');
            copy.data.addNumber(boundMark);
            copy.data.add('p');
            copy.data.addNumber(part);
        }

        private void writeWithin(Message message, int part, int depth) {
            int within = part + 1;
            if (within < message.partCount && message.parents[within] == part) {
                writePart(message, within, depth + 1);
            }
        }

        private void writeBody(Message message, int part) {
            int from = message.turnedFrom[part];
            int to = message.turnedTo[part];
            if (message.codings[part] == 'q') {
                copy.data.addText("coding:q\n\n");
                writeQ(message.turned, from, to);
            } else if (message.codings[part] == 'b') {
                copy.data.addText("coding:b\n\n");
                writeB(message.turned, from, to);
            } else {
                copy.data.add(10);
                copy.data.addRow(message.turned, from, to);
            }
        }

        private void writeQ(Row turned, int from, int to) {
            for (int place = from; place < to; place++) {
                int sign = turned.at(place);
                if (isLetterOrDigit(sign)) {
                    copy.data.add(sign);
                } else {
                    copy.data.add('=');
                    writeHex(sign >> 4);
                    writeHex(sign & 15);
                }
            }
        }

        private void writeHex(int digit) {
            copy.data.add(digit < 10 ? '0' + digit : 'A' + digit - 10);
        }

        private void writeB(Row turned, int from, int to) {
            for (int place = from; place < to; place += 3) {
                int left = to - place;
                int bits = turned.at(place) << 16;
                bits |= left > 1 ? turned.at(place + 1) << 8 : 0;
                bits |= left > 2 ? turned.at(place + 2) : 0;
                copy.data.add(Reader.signOf(bits >>> 18));
                copy.data.add(Reader.signOf(bits >>> 12));
                if (left > 1) {
                    copy.data.add(Reader.signOf(bits >>> 6));
                }
                if (left > 2) {
                    copy.data.add(Reader.signOf(bits));
                }
            }
        }

        private boolean hasSameHead(Message message) {
            if (copy.from != message.from || copy.id != message.id
                    || copy.toCount != message.toCount || copy.refCount != message.refCount) {
                return false;
            }
            for (int place = 0; place < message.toCount; place++) {
                if (copy.to[place] != message.to[place]) {
                    return false;
                }
            }
            for (int place = 0; place < message.refCount; place++) {
                if (copy.refs[place] != message.refs[place]) {
                    return false;
                }
            }
            return copy.subject.length == message.subject.length && copy.subject.hasRow(message.subject, 0);
        }

        private boolean hasSameParts(Message message) {
            if (copy.partCount != message.partCount) {
                return false;
            }
            for (int part = 0; part < message.partCount; part++) {
                if (copy.types[part] != message.types[part] || copy.parents[part] != message.parents[part]
                        || copy.turnedFrom[part] != message.turnedFrom[part]
                        || copy.turnedTo[part] != message.turnedTo[part]) {
                    return false;
                }
            }
            return copy.turned.length == message.turned.length && copy.turned.hasRow(message.turned, 0);
        }
    }

    /** Items by their numbers; those that are gone stay, since their marks are asked for. */
    private static final class Box {
        private int[] messages = new int[8];
        private int[] flags = new int[8];
        private int[] marks = new int[8];
        private boolean[] isGone = new boolean[8];
        private final int[] rights = new int[MOST_PEOPLE];
        private int last;
        private int latest;
        private int here;

        private int put(int message, int flagged) {
            if (last + 1 >= messages.length) {
                widen(2 * messages.length + 8);
            }
            last++;
            here++;
            latest++;
            messages[last] = message;
            flags[last] = flagged;
            marks[last] = latest;
            isGone[last] = false;
            return last;
        }

        private void widen(int capacity) {
            int[] widerMessages = new int[capacity];
            int[] widerFlags = new int[capacity];
            int[] widerMarks = new int[capacity];
            boolean[] widerGone = new boolean[capacity];
            for (int number = 1; number <= last; number++) {
                widerMessages[number] = messages[number];
                widerFlags[number] = flags[number];
                widerMarks[number] = marks[number];
                widerGone[number] = isGone[number];
            }
            messages = widerMessages;
            flags = widerFlags;
            marks = widerMarks;
            isGone = widerGone;
        }

        private boolean holds(int number) {
            return number >= 1 && number <= last && !isGone[number];
        }

        private int messageOf(int number) {
            return number < 1 || number > last ? -1 : messages[number];
        }

        private int flagsOf(int number) {
            return number < 1 || number > last ? 0 : flags[number];
        }

        private void take(int number) {
            if (holds(number)) {
                isGone[number] = true;
                here--;
                latest++;
                marks[number] = latest;
            }
        }

        /** Answers the flags that the item had; flags that stay as they were give no mark. */
        private int flag(int number, int flagged) {
            int before = flagsOf(number);
            if (holds(number) && before != flagged) {
                flags[number] = flagged;
                latest++;
                marks[number] = latest;
            }
            return before;
        }

        private int numberOf(int index) {
            int ahead = 0;
            for (int number = 1; number <= last && index >= 0; number++) {
                if (!isGone[number]) {
                    if (ahead == index) {
                        return number;
                    }
                    ahead++;
                }
            }
            return 0;
        }

        private int countSince(int mark, boolean areGone) {
            int count = 0;
            for (int number = 1; number <= last; number++) {
                if (isGone[number] == areGone && marks[number] > mark) {
                    count++;
                }
            }
            return count;
        }

        private int countFlagged(int flag) {
            int count = 0;
            for (int number = 1; number <= last; number++) {
                if (!isGone[number] && (flags[number] & flag) != 0) {
                    count++;
                }
            }
            return count;
        }
    }

    private static final class Person {
        private final Box[] boxes = new Box[MOST_BOXES];
        /** For each address the day behind that of the last answer to it, 0 for none. */
        private final int[] answered = new int[ADDRESSES];
        private int address = -1;
        private int quota = -1;
        private int room;
        private int script = -1;
        private int holidayFrom = 1;
        private int holidayTo;
        private int holidayDays = 1;
        private int answers;

        private Person() {
            for (int box = 0; box < MOST_BOXES; box++) {
                boxes[box] = new Box();
            }
        }

        private boolean makesAnswer(Message message, int today) {
            int from = message.from;
            boolean isAsked = today >= holidayFrom && today <= holidayTo && from >= 0 && from < ADDRESSES
                    && from != address && !message.hasList && message.isFor(address);
            if (!isAsked || answered[from] > 0 && answered[from] - 1 + holidayDays > today) {
                return false;
            }
            answered[from] = today + 1;
            answers++;
            return true;
        }

        private boolean hasRoomFor(int length) {
            return quota < 0 || room + length <= quota;
        }
    }

    private static final class Session {
        private int reader;
        private int owner;
        private int boxNumber;
        private Box box = new Box();
        private boolean isOpen;
        private int[] numbers = new int[8];
        private int[] flags = new int[8];
        private int count;
        private int lastKnown;

        private void begin(int newReader, int newOwner, int newBoxNumber, Box newBox) {
            reader = newReader;
            owner = newOwner;
            boxNumber = newBoxNumber;
            box = newBox;
            isOpen = true;
            follow();
        }

        private boolean may(int right) {
            return reader == owner || (box.rights[reader] & right) == right;
        }

        private int follow() {
            int changes = 0;
            int kept = 0;
            for (int place = 0; place < count; place++) {
                int number = numbers[place];
                if (!box.holds(number)) {
                    changes++;
                } else {
                    changes += flags[place] == box.flagsOf(number) ? 0 : 1;
                    numbers[kept] = number;
                    flags[kept] = box.flagsOf(number);
                    kept++;
                }
            }
            count = kept;
            for (int number = lastKnown + 1; number <= box.last; number++) {
                if (box.holds(number)) {
                    see(number);
                    changes++;
                }
            }
            lastKnown = box.last;
            return changes;
        }

        private void see(int number) {
            if (count >= numbers.length || count >= flags.length) {
                widen(2 * count + 8);
            }
            numbers[count] = number;
            flags[count] = box.flagsOf(number);
            count++;
        }

        private void widen(int capacity) {
            int[] widerNumbers = new int[capacity];
            int[] widerFlags = new int[capacity];
            System.arraycopy(numbers, 0, widerNumbers, 0, count);
            System.arraycopy(flags, 0, widerFlags, 0, count);
            numbers = widerNumbers;
            flags = widerFlags;
        }
    }

    private static final class Script {
        private final char[] tests = new char[MOST_RULES];
        private final boolean[] isTurned = new boolean[MOST_RULES];
        private final char[] actions = new char[MOST_RULES];
        private final int[] numbers = new int[MOST_RULES];
        private final Row[] patterns = new Row[MOST_RULES];
        private boolean isThere;
        private int count;

        private Script() {
            for (int rule = 0; rule < MOST_RULES; rule++) {
                patterns[rule] = new Row(MOST_WORD);
            }
        }

        private void put(char test, boolean turned, char action, int number, Row pattern) {
            if (count < MOST_RULES) {
                tests[count] = test;
                isTurned[count] = turned;
                actions[count] = action;
                numbers[count] = number;
                patterns[count].take(pattern);
                count++;
            }
        }
    }

    /** Matches texts with patterns, and keeps what the first '*' of the last pattern that matched stood for. */
    private static final class Matcher {
        private static final int ANY_SIGN = -1;
        private static final int ANY_ROW = -2;
        private final int[] wanted = new int[MOST_WORD * MOST_CAPTURED];
        private final boolean[] fits = new boolean[MOST_SHOWN + 1];
        private final Row captured = new Row(MOST_CAPTURED);
        private int wantedCount;

        private void forget() {
            captured.length = 0;
        }

        private boolean matches(Row pattern, Row text) {
            if (text.length > MOST_SHOWN) {
                return false;
            }
            unfold(pattern);
            int star = 0;
            while (star < wantedCount && wanted[star] != ANY_ROW) {
                star++;
            }
            if (!fitsAhead(text, star)) {
                return false;
            }
            if (star >= wantedCount) {
                return matchesPlainly(text);
            }
            fitBehind(text, star + 1);
            int end = star;
            while (end <= text.length && !fits[end]) {
                end++;
            }
            if (end > text.length) {
                return false;
            }
            captured.length = 0;
            captured.addRow(text, star, end - star > MOST_CAPTURED ? star + MOST_CAPTURED : end);
            return true;
        }

        /** A pattern without a '*', of which all signs fit, matches if the text has no more of them. */
        private boolean matchesPlainly(Row text) {
            if (text.length != wantedCount) {
                return false;
            }
            forget();
            return true;
        }

        /** Puts the captured signs, which stand for themselves, in place of each '$'. */
        private void unfold(Row pattern) {
            wantedCount = 0;
            for (int place = 0; place < pattern.length; place++) {
                int sign = pattern.at(place);
                if (sign == '$') {
                    for (int copied = 0; copied < captured.length; copied++) {
                        want(captured.at(copied));
                    }
                } else {
                    want(sign == '?' ? ANY_SIGN : sign == '*' ? ANY_ROW : sign);
                }
            }
        }

        private void want(int sign) {
            if (wantedCount < wanted.length) {
                wanted[wantedCount] = sign;
                wantedCount++;
            }
        }

        private boolean fitsAhead(Row text, int count) {
            if (count > text.length) {
                return false;
            }
            for (int place = 0; place < count; place++) {
                if (wanted[place] != ANY_SIGN && wanted[place] != text.at(place)) {
                    return false;
                }
            }
            return true;
        }

        /** Sets for each place of the text whether all that is wanted from first on fits all that is behind. */
        private void fitBehind(Row text, int first) {
            for (int place = 0; place <= text.length; place++) {
                fits[place] = place == text.length;
            }
            for (int next = wantedCount - 1; next >= first; next--) {
                if (wanted[next] == ANY_ROW) {
                    for (int place = text.length - 1; place >= 0; place--) {
                        fits[place] = fits[place] || fits[place + 1];
                    }
                } else {
                    for (int place = 0; place < text.length; place++) {
                        boolean isSign = wanted[next] == ANY_SIGN || wanted[next] == text.at(place);
                        fits[place] = isSign && fits[place + 1];
                    }
                    fits[text.length] = false;
                }
            }
        }
    }

    /** The people and their scripts, to whom one message at a time is delivered, and what was counted. */
    private static final class Delivery {
        private final Person[] people = new Person[MOST_PEOPLE];
        private final Script[] scripts = new Script[MOST_SCRIPTS];
        private final Matcher matcher = new Matcher();
        private final Row text = new Row(MOST_SHOWN);
        /** The copies of a message, those that are delivered still in it; each tells at whom it was, as bits. */
        private final int[] receivers = new int[MOST_DELIVERIES];
        private final int[] histories = new int[MOST_DELIVERIES];
        private int copyCount;
        private int circles;
        private int loops;
        private int refused;
        private int answers;
        private int deliveries;
        private int present;
        private int flags;
        private int keptBoxes;
        private int underWay;
        private int tried;
        private boolean isDone;
        private boolean hasLoop;
        private boolean isEnded;

        private Delivery() {
            for (int person = 0; person < MOST_PEOPLE; person++) {
                people[person] = new Person();
            }
            for (int script = 0; script < MOST_SCRIPTS; script++) {
                scripts[script] = new Script();
            }
        }

        private void deliver(Message message, int today) {
            copyCount = 0;
            for (int place = 0; place < message.toCount; place++) {
                for (int person = 0; person < MOST_PEOPLE; person++) {
                    if (people[person].address == message.to[place]) {
                        addCopy(person, 0);
                    }
                }
            }
            // A copy that is redirected joins the end of the row, and has its turn in this same loop.
            for (int copy = 0; copy < copyCount && copy < MOST_DELIVERIES; copy++) {
                present = copy;
                Person person = people[receivers[copy]];
                deliveries++;
                answers += person.makesAnswer(message, today) ? 1 : 0;
                begin();
                runScript(person.script, message, 1);
                if (!isDone || hasLoop) {
                    keep(message, 0);
                }
            }
        }

        private void addCopy(int person, int history) {
            if (copyCount < MOST_DELIVERIES) {
                receivers[copyCount] = person;
                histories[copyCount] = history | 1 << person;
                copyCount++;
            }
        }

        private void begin() {
            flags = 0;
            keptBoxes = 0;
            underWay = 0;
            tried = 0;
            isDone = false;
            hasLoop = false;
            isEnded = false;
            matcher.forget();
        }

        private void runScript(int number, Message message, int depth) {
            if (number < 0 || number >= MOST_SCRIPTS || depth > MOST_SCRIPTS) {
                return;
            }
            Script script = scripts[number];
            underWay |= 1 << number;
            for (int rule = 0; rule < script.count && !isEnded; rule++) {
                if (tried >= MOST_TRIED) {
                    isEnded = true;
                } else {
                    tried++;
                    if (isMet(script.tests[rule], script.patterns[rule], message) != script.isTurned[rule]) {
                        act(script.actions[rule], script.numbers[rule], message, depth);
                    }
                }
            }
            underWay &= ~(1 << number);
        }

        private boolean isMet(char test, Row pattern, Message message) {
            if (test == 'a') {
                return true;
            }
            if (test == 'z') {
                return message.data.length > 10 * pattern.length;
            }
            if (test == 's') {
                return matcher.matches(pattern, message.subject);
            }
            if (test == 'i') {
                return matcher.matches(pattern, message.list);
            }
            if (test == 'f') {
                return matcher.matches(pattern, spelled(message.from));
            }
            for (int place = 0; place < message.toCount; place++) {
                if (matcher.matches(pattern, spelled(message.to[place]))) {
                    return true;
                }
            }
            return false;
        }

        private Row spelled(int address) {
            text.length = 0;
            if (address >= 0) {
                text.add('a' + address / 10);
                text.add('0' + address % 10);
            }
            return text;
        }

        private void act(char action, int number, Message message, int depth) {
            if (action == 'k') {
                isDone = true;
                keep(message, number);
            } else if (action == 'r') {
                redirect(number);
            } else if (action == 'd') {
                isDone = true;
            } else if (action == 'm') {
                flags |= number;
            } else if (action == 'x') {
                isEnded = true;
            } else if (action == 'n') {
                include(number, message, depth);
            }
        }

        private void keep(Message message, int box) {
            if (box < 0 || box >= MOST_BOXES || (keptBoxes >> box & 1) != 0) {
                return;
            }
            keptBoxes |= 1 << box;
            Person person = people[receivers[present]];
            if (person.hasRoomFor(message.data.length)) {
                person.room += message.data.length;
                person.boxes[box].put(message.number, flags);
            } else {
                refused++;
            }
        }

        private void redirect(int person) {
            if (person < 0 || person >= MOST_PEOPLE || people[person].address < 0) {
                return;
            }
            if ((histories[present] >> person & 1) != 0 || copyCount >= MOST_DELIVERIES) {
                circles++;
            } else {
                isDone = true;
                addCopy(person, histories[present]);
            }
        }

        private void include(int number, Message message, int depth) {
            if (number < 0 || number >= MOST_SCRIPTS || !scripts[number].isThere) {
                return;
            }
            if ((underWay >> number & 1) != 0) {
                loops++;
                hasLoop = true;
                isEnded = true;
            } else {
                runScript(number, message, depth + 1);
            }
        }
    }

    /** The ids of all messages by rising ids, with their parents and the groups that are threads. */
    private static final class Threads {
        private final Message[] ones = new Message[MOST_MESSAGES];
        private final int[] parents = new int[MOST_MESSAGES];
        /** Of all that belong together, each has the place of the lowest id. */
        private final int[] groups = new int[MOST_MESSAGES];
        private final int[] baseFrom = new int[MOST_MESSAGES];
        private final int[] baseTo = new int[MOST_MESSAGES];
        private final boolean[] isAnswer = new boolean[MOST_MESSAGES];
        private int count;

        /** Joins anew from all messages, since what counts must not hang on the order in which they came. */
        private void join(Message[] messages, int messageCount) {
            count = 0;
            for (int message = 0; message < messageCount && message < messages.length; message++) {
                if (messages[message].id >= 0) {
                    addOne(messages[message]);
                }
            }
            for (int place = 0; place < count; place++) {
                parents[place] = -1;
                groups[place] = place;
                findBase(place);
            }
            for (int place = 0; place < count; place++) {
                parents[place] = parentOfPlace(place);
            }
            for (int place = 0; place < count; place++) {
                belong(place, parents[place]);
                if (parents[place] < 0) {
                    belong(place, ones[place].refCount > 0 ? sameOrphan(place) : sameBase(place));
                }
            }
        }

        private void addOne(Message message) {
            int place = 0;
            while (place < count && ones[place].id < message.id) {
                place++;
            }
            if (place < count && ones[place].id == message.id) {
                ones[place] = message.seal > ones[place].seal ? message : ones[place];
            } else if (count < MOST_MESSAGES) {
                for (int behind = count; behind > place; behind--) {
                    ones[behind] = ones[behind - 1];
                }
                ones[place] = message;
                count++;
            }
        }

        private int placeOf(int id) {
            for (int place = 0; place < count; place++) {
                if (ones[place].id == id) {
                    return place;
                }
            }
            return -1;
        }

        private int parentOfPlace(int place) {
            Message one = ones[place];
            for (int ref = one.refCount - 1; ref >= 0; ref--) {
                int parent = placeOf(one.refs[ref]);
                if (parent >= 0 && parent != place) {
                    return isBelow(parent, place) ? -1 : parent;
                }
            }
            return -1;
        }

        private boolean isBelow(int low, int high) {
            int place = low;
            for (int step = 0; step < MOST_MESSAGES && place >= 0; step++) {
                place = parents[place];
                if (place == high) {
                    return true;
                }
            }
            return false;
        }

        private void belong(int one, int other) {
            if (other < 0 || other >= count) {
                return;
            }
            int lower = groups[one] < groups[other] ? groups[one] : groups[other];
            int higher = groups[one] < groups[other] ? groups[other] : groups[one];
            for (int place = 0; place < count; place++) {
                if (groups[place] == higher) {
                    groups[place] = lower;
                }
            }
        }

        private boolean isOrphan(int place) {
            Message one = ones[place];
            for (int ref = 0; ref < one.refCount; ref++) {
                if (placeOf(one.refs[ref]) >= 0) {
                    return false;
                }
            }
            return one.refCount > 0;
        }

        private int sameOrphan(int place) {
            if (!isOrphan(place)) {
                return -1;
            }
            for (int other = 0; other < place; other++) {
                if (isOrphan(other) && ones[other].refs[0] == ones[place].refs[0]) {
                    return other;
                }
            }
            return -1;
        }

        private int sameBase(int place) {
            if (!isAnswer[place]) {
                return -1;
            }
            for (int other = 0; other < count; other++) {
                if (ones[other].refCount == 0 && !isAnswer[other] && hasSameBase(place, other)) {
                    return other;
                }
            }
            return -1;
        }

        private boolean hasSameBase(int one, int other) {
            int length = baseTo[one] - baseFrom[one];
            if (length != baseTo[other] - baseFrom[other]) {
                return false;
            }
            for (int step = 0; step < length; step++) {
                int sign = ones[one].subject.at(baseFrom[one] + step);
                if (lowered(sign) != lowered(ones[other].subject.at(baseFrom[other] + step))) {
                    return false;
                }
            }
            return true;
        }

        private void findBase(int place) {
            Row subject = ones[place].subject;
            int from = 0;
            int to = subject.length;
            boolean isTaken = true;
            isAnswer[place] = false;
            for (int step = 0; isTaken && step < MOST_SHOWN; step++) {
                from = subject.behindBlanks(from, to);
                to = subject.aheadOfBlanks(from, to);
                int front = frontLength(subject, from, to);
                int end = front == 0 && hasLowered(subject, to - 5, from, to, "(fwd)") ? 5 : 0;
                from += front;
                to -= end;
                isTaken = front + end > 0;
                isAnswer[place] = isAnswer[place] || front > 0;
            }
            baseFrom[place] = from;
            baseTo[place] = to;
        }

        private static int frontLength(Row subject, int from, int to) {
            if (hasLowered(subject, from, from, to, "re:")) {
                return 3;
            }
            return hasLowered(subject, from, from, to, "fwd:") ? 4 : 0;
        }

        private static boolean hasLowered(Row subject, int place, int from, int to, String small) {
            if (place < from || place + small.length() > to) {
                return false;
            }
            for (int step = 0; step < small.length(); step++) {
                if (lowered(subject.at(place + step)) != small.charAt(step)) {
                    return false;
                }
            }
            return true;
        }

        private int lowestId(int id) {
            int place = placeOf(id);
            return place < 0 ? id : ones[groups[place]].id;
        }

        private int parentId(int id) {
            int place = placeOf(id);
            return place < 0 || parents[place] < 0 ? -1 : ones[parents[place]].id;
        }

        private int groupCount() {
            int threads = 0;
            for (int place = 0; place < count; place++) {
                if (groups[place] == place) {
                    threads++;
                }
            }
            return threads;
        }

        private boolean isTogether(int one, int other) {
            return one >= 0 && other >= 0 && lowestId(one) == lowestId(other);
        }
    }
}
