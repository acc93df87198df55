import java.math.BigInteger;
import java.nio.charset.StandardCharsets;
import java.util.ArrayDeque;
import java.util.ArrayList;
import java.util.Arrays;
import java.util.HashMap;
import java.util.HashSet;
import java.util.LinkedHashMap;
import java.util.LinkedHashSet;
import java.util.List;
import java.util.Map;
import java.util.NoSuchElementException;
import java.util.Set;
import java.util.TreeMap;
import java.util.regex.Matcher;
import java.util.regex.Pattern;

/** The document once more, written with the whole library and in another way than PostSieve, to compare with. */
final class Model {
    static final class Part {
        int parent;
        char type;
        String bytes = "";
    }

    static final class Mail {
        int number;
        String data;
        List<Part> parts = new ArrayList<>();
        Map<String, String> head;
        int from = -1;
        List<Integer> to = new ArrayList<>();
        int id = -1;
        List<Integer> refs = new ArrayList<>();
        String subject;
        String list;
        int seal;
    }

    static final class Item {
        int number;
        Mail mail;
        int flags;
        int mark;
        boolean gone;
    }

    static final class Box {
        List<Item> items = new ArrayList<>();
        int mark;
        int[] rights = new int[4];

        List<Item> there() {
            List<Item> there = new ArrayList<>(items);
            there.removeIf(item -> item.gone);
            return there;
        }
    }

    static final class Person {
        int address;
        int quota = -1;
        int script = -1;
        int from = 1;
        int to = 0;
        int days = 1;
        int answers;
        Map<Integer, Integer> answered = new HashMap<>();
        Box[] boxes = {new Box(), new Box(), new Box(), new Box()};

        int room() {
            int room = 0;
            for (Box box : boxes) {
                for (Item item : box.there()) {
                    room += item.mail.data.length();
                }
            }
            return room;
        }
    }

    record Rule(char test, boolean turned, char action, int n, String pattern) {
    }

    record Copy(int person, Set<Integer> was) {
    }

    static final class Session {
        int reader;
        int owner;
        int boxNumber;
        Box box;
        boolean open = true;
        List<Item> seen = new ArrayList<>();
        Map<Item, Integer> flags = new HashMap<>();
    }

    static final class EndOfScripts extends RuntimeException {
        private static final long serialVersionUID = 1;
    }

    private String tape = "";
    private String word = "";
    private int day;
    private final List<Person> people = new ArrayList<>();
    private final List<Mail> mails = new ArrayList<>();
    private final List<List<Rule>> scripts = new ArrayList<>();
    private final List<Session> sessions = new ArrayList<>();
    private final Map<Character, Integer> counts = new HashMap<>();

    int feed(int a, int b, int c, int d, int e) {
        if (tape.length() > 1980) {
            throw new UnsupportedOperationException();
        }
        for (int n : new int[] {a, b, c, d, e}) {
            for (int shift = 24; shift >= 0; shift -= 8) {
                tape += (char) (n >>> shift & 255);
            }
        }
        return tape.length();
    }

    int cut(int length) {
        if (length < 0 || length > tape.length()) {
            throw new IllegalArgumentException();
        }
        int off = tape.length() - length;
        tape = tape.substring(0, length);
        return off;
    }

    int addPerson(char letter, int digit) {
        if (letter < 'a' || letter > 'z' || digit < 0 || digit > 9) {
            throw new IllegalArgumentException();
        }
        int address = (letter - 'a') * 10 + digit;
        if (people.stream().anyMatch(p -> p.address == address)) {
            throw new UnsupportedOperationException();
        }
        if (people.size() == 4) {
            throw new IllegalStateException();
        }
        Person p = new Person();
        p.address = address;
        people.add(p);
        return people.size() - 1;
    }

    private Person person(int n) {
        if (n < 0 || n >= people.size()) {
            throw new IndexOutOfBoundsException();
        }
        return people.get(n);
    }

    private Box box(int person, int box) {
        Person p = person(person);
        if (box < 0 || box > 3) {
            throw new IndexOutOfBoundsException();
        }
        return p.boxes[box];
    }

    int setQuota(int person, int quota) {
        Person p = person(person);
        if (quota < -1 || quota > 99999) {
            throw new IllegalArgumentException();
        }
        int was = p.quota;
        p.quota = quota;
        return was;
    }

    int setHoliday(int person, int from, int to, int days) {
        Person p = person(person);
        if (days < 1 || days > 99) {
            throw new IllegalArgumentException();
        }
        p.from = from;
        p.to = to;
        p.days = days;
        return p.answers;
    }

    int pass(int days) {
        if (days < 1 || days > 99) {
            throw new IllegalArgumentException();
        }
        return day += days;
    }

    int send() {
        if (mails.size() == 20) {
            throw new IllegalStateException();
        }
        Mail mail = read(tape);
        mail.number = mails.size();
        mails.add(mail);
        tape = "";
        deliver(mail);
        return mail.number;
    }

    int word(char sign) {
        if (sign < 32 || sign > 126) {
            throw new IllegalArgumentException();
        }
        if (word.length() == 12) {
            throw new IllegalStateException();
        }
        word += sign;
        return word.length();
    }

    int clear() {
        int length = word.length();
        word = "";
        return length;
    }

    int addScript() {
        if (scripts.size() == 6) {
            throw new IllegalStateException();
        }
        scripts.add(new ArrayList<>());
        return scripts.size() - 1;
    }

    private List<Rule> script(int n) {
        if (n < 0 || n >= scripts.size()) {
            throw new IndexOutOfBoundsException();
        }
        return scripts.get(n);
    }

    int addRule(int script, char test, boolean turned, char action, int n) {
        List<Rule> rules = script(script);
        Map<Character, Integer> most = Map.of('k', 3, 'r', 3, 'm', 15, 'n', 5);
        if ("fsitza".indexOf(test) < 0 || "krdmxn".indexOf(action) < 0) {
            throw new IllegalArgumentException();
        }
        if (most.containsKey(action) && (n < 0 || n > most.get(action))) {
            throw new IllegalArgumentException();
        }
        if (rules.size() == 6) {
            throw new IllegalStateException();
        }
        rules.add(new Rule(test, turned, action, n, word));
        word = "";
        return rules.size();
    }

    int dropRules(int script) {
        List<Rule> rules = script(script);
        int size = rules.size();
        rules.clear();
        return size;
    }

    int setScript(int person, int script) {
        Person p = person(person);
        if (script != -1) {
            script(script);
        }
        int was = p.script;
        p.script = script;
        return was;
    }

    private Mail mail(int n) {
        if (n < 0 || n >= mails.size()) {
            throw new IndexOutOfBoundsException();
        }
        return mails.get(n);
    }

    private Part part(int mail, int part) {
        List<Part> parts = mail(mail).parts;
        if (part < 0 || part >= parts.size()) {
            throw new IndexOutOfBoundsException();
        }
        return parts.get(part);
    }

    int parts(int message) {
        return mail(message).parts.size();
    }

    char typeOf(int message, int part) {
        return part(message, part).type;
    }

    int parentOf(int message, int part) {
        Part p = part(message, part);
        if (part == 0) {
            throw new NoSuchElementException();
        }
        return p.parent;
    }

    private String text(int message, int part) {
        Part p = part(message, part);
        if (p.type != 't') {
            throw new UnsupportedOperationException();
        }
        return p.bytes;
    }

    int bytes(int message, int part) {
        return text(message, part).length();
    }

    int byteAt(int message, int part, int index) {
        String bytes = text(message, part);
        if (index < 0 || index >= bytes.length()) {
            throw new NoSuchElementException();
        }
        return bytes.charAt(index);
    }

    int subject(int message) {
        return mail(message).subject.length();
    }

    char subjectAt(int message, int index) {
        String subject = mail(message).subject;
        if (index < 0 || index >= subject.length()) {
            throw new NoSuchElementException();
        }
        return subject.charAt(index);
    }

    int address(int message, int index) {
        Mail m = mail(message);
        if (index == 0 && m.from >= 0) {
            return m.from;
        }
        if (index < 1 || index > m.to.size()) {
            throw new NoSuchElementException();
        }
        return m.to.get(index - 1);
    }

    int idOf(int message) {
        Mail m = mail(message);
        if (m.id < 0) {
            throw new NoSuchElementException();
        }
        return m.id;
    }

    int seal(int message) {
        return mail(message).seal;
    }

    boolean isSame(int message) {
        mail(message);
        return true;
    }

    int items(int person, int box) {
        return box(person, box).there().size();
    }

    int itemAt(int person, int box, int index) {
        List<Item> there = box(person, box).there();
        if (index < 0 || index >= there.size()) {
            throw new NoSuchElementException();
        }
        return there.get(index).number * 100 + there.get(index).mail.number;
    }

    int room(int person) {
        return person(person).room();
    }

    int mark(int person, int box) {
        return box(person, box).mark;
    }

    int changedSince(int person, int box, int mark) {
        return (int) box(person, box).items.stream().filter(i -> !i.gone && i.mark > mark).count();
    }

    int goneSince(int person, int box, int mark) {
        return (int) box(person, box).items.stream().filter(i -> i.gone && i.mark > mark).count();
    }

    int grant(int person, int box, int other, int rights) {
        person(other);
        Box b = box(person, box);
        if (rights < 0 || rights > 7 || person == other) {
            throw new IllegalArgumentException();
        }
        int was = b.rights[other];
        b.rights[other] = rights;
        return was;
    }

    int open(int reader, int person, int box) {
        person(reader);
        Box b = box(person, box);
        if (reader != person && b.rights[reader] % 2 == 0) {
            throw new UnsupportedOperationException();
        }
        if (sessions.size() == 5) {
            throw new IllegalStateException();
        }
        Session s = new Session();
        s.reader = reader;
        s.owner = person;
        s.boxNumber = box;
        s.box = b;
        sessions.add(s);
        told(sessions.size() - 1);
        return sessions.size() - 1;
    }

    private Session session(int n) {
        if (n < 0 || n >= sessions.size() || !sessions.get(n).open) {
            throw new NoSuchElementException();
        }
        return sessions.get(n);
    }

    private Item place(int session, int place) {
        Session s = session(session);
        if (place < 0 || place >= s.seen.size()) {
            throw new IndexOutOfBoundsException();
        }
        return s.seen.get(place);
    }

    int close(int session) {
        Session s = session(session);
        s.open = false;
        return s.seen.size();
    }

    int sees(int session) {
        return session(session).seen.size();
    }

    int numberAt(int session, int place) {
        return place(session, place).number;
    }

    int flagsAt(int session, int place) {
        Item item = place(session, place);
        return session(session).flags.get(item);
    }

    private static void needRight(Session s, int bit) {
        if (s.reader != s.owner && (s.box.rights[s.reader] / bit) % 2 == 0) {
            throw new UnsupportedOperationException();
        }
    }

    private static void needThere(Item item) {
        if (item.gone) {
            throw new IllegalStateException();
        }
    }

    int setFlags(int session, int place, int flags) {
        Item item = place(session, place);
        if (flags < 0 || flags > 15) {
            throw new IllegalArgumentException();
        }
        Session s = session(session);
        needRight(s, 2);
        needThere(item);
        int was = item.flags;
        if (was != flags) {
            item.flags = flags;
            item.mark = ++s.box.mark;
        }
        s.flags.put(item, flags);
        return was;
    }

    private static void drop(Box box, Item item) {
        item.gone = true;
        item.mark = ++box.mark;
    }

    private static int put(Box box, Mail mail, int flags) {
        Item item = new Item();
        item.number = box.items.size() + 1;
        item.mail = mail;
        item.flags = flags;
        item.mark = ++box.mark;
        box.items.add(item);
        return item.number;
    }

    int remove(int session, int place) {
        Item item = place(session, place);
        Session s = session(session);
        needRight(s, 4);
        needThere(item);
        drop(s.box, item);
        return item.number;
    }

    int move(int session, int place, int box) {
        Item item = place(session, place);
        Session s = session(session);
        if (box < 0 || box > 3 || box == s.boxNumber) {
            throw new IndexOutOfBoundsException();
        }
        needRight(s, 4);
        needThere(item);
        drop(s.box, item);
        return put(people.get(s.owner).boxes[box], item.mail, item.flags);
    }

    int told(int session) {
        Session s = session(session);
        List<Item> there = s.box.there();
        int told = 0;
        for (Item item : s.seen) {
            told += item.gone || item.flags != s.flags.get(item) ? 1 : 0;
        }
        for (Item item : there) {
            told += s.seen.contains(item) ? 0 : 1;
        }
        s.seen = there;
        s.flags.clear();
        there.forEach(item -> s.flags.put(item, item.flags));
        return told;
    }

    int find(int session, char by, int n) {
        Session s = session(session);
        if ("fsgtz".indexOf(by) < 0) {
            throw new IllegalArgumentException();
        }
        int found = 0;
        for (Item item : s.seen) {
            Mail m = item.mail;
            boolean is = switch (by) {
                case 'f' -> n >= 0 && m.from == n;
                case 's' -> m.subject.contains(word);
                case 'g' -> (~s.flags.get(item) & n) == 0;
                case 'z' -> m.data.length() > n;
                default -> n >= 0 && n < mails.size() && mails.get(n).id >= 0 && m.id >= 0
                        && group(m.id).contains(mails.get(n).id);
            };
            found += is ? 1 : 0;
        }
        return found;
    }

    int thread(int message) {
        return group(idOf(message)).stream().min(Integer::compare).get();
    }

    int above(int message) {
        Integer parent = parents().get(idOf(message));
        if (parent == null) {
            throw new NoSuchElementException();
        }
        return parent;
    }

    int threads() {
        Set<Set<Integer>> all = new HashSet<>();
        ones().keySet().forEach(id -> all.add(group(id)));
        return all.size();
    }

    int counted(char what) {
        if ("clfad".indexOf(what) < 0) {
            throw new IllegalArgumentException();
        }
        return counts.getOrDefault(what, 0);
    }

    float readShare(int person) {
        Person p = person(person);
        int all = 0;
        int read = 0;
        for (Box box : p.boxes) {
            for (Item item : box.there()) {
                all++;
                read += item.flags & 1;
            }
        }
        if (all == 0) {
            throw new ArithmeticException();
        }
        return (float) read / all;
    }

    double meanParts() {
        if (mails.isEmpty()) {
            throw new ArithmeticException();
        }
        return (double) mails.stream().mapToInt(m -> m.parts.size()).sum() / mails.size();
    }

    // Reading

    private static String[] headAndBody(String data) {
        if (data.startsWith("\n")) {
            return new String[] {"", data.substring(1)};
        }
        int empty = data.indexOf("\n\n");
        return empty < 0 ? new String[] {data, ""}
                : new String[] {data.substring(0, empty), data.substring(empty + 2)};
    }

    private static String trimmed(String s) {
        return s.replaceAll("\\A[ \t]+", "").replaceAll("[ \t]+\\z", "");
    }

    private static String small(String s) {
        StringBuilder small = new StringBuilder();
        for (char c : s.toCharArray()) {
            small.append(c >= 'A' && c <= 'Z' ? (char) (c - 'A' + 'a') : c);
        }
        return small.toString();
    }

    private static String withoutComments(String s) {
        ArrayDeque<Character> open = new ArrayDeque<>();
        StringBuilder left = new StringBuilder();
        for (char c : s.toCharArray()) {
            if (c == '(') {
                open.push(c);
            } else if (c == ')' && !open.isEmpty()) {
                open.pop();
            } else if (open.isEmpty()) {
                left.append(c);
            }
        }
        return left.toString();
    }

    private static Map<String, String> fields(String head) {
        Map<String, String> fields = new HashMap<>();
        for (String line : head.replaceAll("\n(?=[ \t])", "").split("\n")) {
            int colon = line.indexOf(':');
            if (colon >= 0) {
                String value = withoutComments(line.substring(colon + 1)).replaceAll("[ \t]+", " ");
                fields.putIfAbsent(small(trimmed(line.substring(0, colon))), trimmed(value));
            }
        }
        return fields;
    }

    private static Mail read(String data) {
        Mail mail = new Mail();
        mail.data = data;
        mail.head = fields(headAndBody(data)[0]);
        readPart(mail, -1, data, 1);
        Matcher from = addresses(mail.head.getOrDefault("from", ""));
        if (from.find()) {
            mail.from = number(from.group());
        }
        Set<Integer> to = new LinkedHashSet<>();
        for (Matcher m = addresses(mail.head.getOrDefault("to", "")); m.find();) {
            to.add(number(m.group()));
        }
        mail.to = to.stream().limit(4).toList();
        Matcher id = Pattern.compile("[0-9]{1,6}").matcher(mail.head.getOrDefault("id", ""));
        if (id.lookingAt()) {
            mail.id = Integer.parseInt(id.group());
        }
        for (Matcher m = Pattern.compile("[0-9]+").matcher(mail.head.getOrDefault("refs", "")); m.find();) {
            String digits = m.group();
            if (mail.refs.size() < 6) {
                mail.refs.add(Integer.parseInt(digits.substring(0, Math.min(6, digits.length()))));
            }
        }
        mail.subject = subjectOf(mail.head.getOrDefault("subject", ""));
        mail.list = first60(mail.head.getOrDefault("list", ""));
        mail.seal = sealOf(mail);
        return mail;
    }

    private static Matcher addresses(String s) {
        return Pattern.compile("(?<![A-Za-z0-9])[a-z][0-9](?![A-Za-z0-9])").matcher(s);
    }

    private static int number(String address) {
        return (address.charAt(0) - 'a') * 10 + address.charAt(1) - '0';
    }

    private static String first60(String s) {
        return s.substring(0, Math.min(60, s.length()));
    }

    private static String subjectOf(String value) {
        StringBuilder subject = new StringBuilder();
        int end = 0;
        boolean behindCoded = false;
        for (Matcher m = Pattern.compile("=\\?q\\?([^? \t]*)\\?=").matcher(value); m.find();) {
            String between = value.substring(end, m.start());
            subject.append(behindCoded && between.equals(" ") ? "" : between);
            Matcher s = Pattern.compile("=([0-9A-Fa-f]{2})|(.)", Pattern.DOTALL).matcher(m.group(1));
            while (s.find()) {
                subject.append(s.group(1) != null ? (char) Integer.parseInt(s.group(1), 16)
                        : s.group(2).equals("_") ? ' ' : s.group(2).charAt(0));
            }
            end = m.end();
            behindCoded = true;
        }
        subject.append(value.substring(end));
        return first60(subject.toString().replaceAll("[^ -~]", "#"));
    }

    private static int sealOf(Mail mail) {
        StringBuilder canonical = new StringBuilder();
        for (String name : List.of("from", "to", "subject", "id")) {
            if (mail.head.containsKey(name)) {
                canonical.append(name).append(':').append(mail.head.get(name).replace(" ", "")).append('\n');
            }
        }
        String body = headAndBody(mail.data)[1];
        canonical.append(body.replaceAll("[ \t]+(?=\n|\\z)", "").replaceAll("\n+\\z", ""));
        BigInteger seal = BigInteger.valueOf(17);
        for (byte b : canonical.toString().getBytes(StandardCharsets.ISO_8859_1)) {
            seal = seal.multiply(BigInteger.valueOf(31)).add(BigInteger.valueOf(b & 255));
        }
        return seal.intValue();
    }

    private static void readPart(Mail mail, int parent, String data, int depth) {
        if (mail.parts.size() == 20) {
            return;
        }
        int number = mail.parts.size();
        Part part = new Part();
        mail.parts.add(part);
        part.parent = parent;
        Map<String, String> head = fields(headAndBody(data)[0]);
        String body = headAndBody(data)[1];
        String type = depth > 6 ? "" : head.getOrDefault("type", "");
        String bound = boundOf(type);
        if (type.startsWith("multi") && !bound.isEmpty()) {
            part.type = 'm';
            for (String within : split(body, bound)) {
                readPart(mail, number, within, depth + 1);
            }
        } else if (type.startsWith("wrap")) {
            part.type = 'w';
            readPart(mail, number, body, depth + 1);
        } else {
            part.type = 't';
            part.bytes = turned(body, head.getOrDefault("coding", ""));
        }
    }

    private static String boundOf(String type) {
        Map<String, String> parameters = new HashMap<>();
        String[] segments = type.split(";", -1);
        for (String segment : Arrays.copyOfRange(segments, 1, segments.length)) {
            int equals = segment.indexOf('=');
            if (equals >= 0) {
                parameters.putIfAbsent(trimmed(segment.substring(0, equals)), trimmed(segment.substring(equals + 1)));
            }
        }
        if (parameters.containsKey("b")) {
            return parameters.get("b");
        }
        String bound = "";
        for (int piece = 0; parameters.containsKey("b*" + piece); piece++) {
            bound += parameters.get("b*" + piece);
        }
        return bound;
    }

    private static List<String> split(String body, String bound) {
        List<String> parts = new ArrayList<>();
        List<String> lines = null;
        for (String line : body.split("\n", -1)) {
            String plain = line.replaceAll("[ \t]+\\z", "");
            boolean opens = plain.equals("--" + bound);
            boolean closes = plain.equals("--" + bound + "--");
            if ((opens || closes) && lines != null) {
                parts.add(String.join("\n", lines));
            }
            if (closes) {
                return parts;
            }
            if (opens) {
                lines = new ArrayList<>();
            } else if (lines != null) {
                lines.add(line);
            }
        }
        if (lines != null) {
            parts.add(String.join("\n", lines));
        }
        return parts;
    }

    private static String turned(String body, String coding) {
        StringBuilder turned = new StringBuilder();
        if (coding.equals("q")) {
            Matcher m = Pattern.compile("=([0-9A-Fa-f]{2})|=[ \t]*\n|(.)", Pattern.DOTALL).matcher(body);
            while (m.find()) {
                turned.append(m.group(1) != null ? String.valueOf((char) Integer.parseInt(m.group(1), 16))
                        : m.group(2) != null ? m.group(2) : "");
            }
            return turned.toString();
        }
        if (coding.equals("b")) {
            String signs = "ABCDEFGHIJKLMNOPQRSTUVWXYZabcdefghijklmnopqrstuvwxyz0123456789+/";
            StringBuilder bits = new StringBuilder();
            for (char c : body.replaceAll("(?s)=.*", "").toCharArray()) {
                if (signs.indexOf(c) >= 0) {
                    bits.append(Integer.toBinaryString(64 + signs.indexOf(c)).substring(1));
                }
            }
            for (int at = 0; at + 8 <= bits.length(); at += 8) {
                turned.append((char) Integer.parseInt(bits.substring(at, at + 8), 2));
            }
            return turned.toString();
        }
        return body;
    }

    // Delivering

    private Copy now;
    private Mail sent;
    private int copies;
    private final ArrayDeque<Copy> waiting = new ArrayDeque<>();
    private String captured;
    private int flags;
    private int tried;
    private boolean done;
    private boolean loop;
    private Set<Integer> kept;

    private void count(char what) {
        counts.merge(what, 1, Integer::sum);
    }

    private void deliver(Mail mail) {
        sent = mail;
        for (int address : mail.to) {
            for (int p = 0; p < people.size(); p++) {
                if (people.get(p).address == address) {
                    waiting.add(new Copy(p, Set.of(p)));
                }
            }
        }
        copies = waiting.size();
        while (!waiting.isEmpty()) {
            now = waiting.remove();
            count('d');
            deliverTo(people.get(now.person));
        }
    }

    private void deliverTo(Person p) {
        Integer last = p.answered.get(sent.from);
        if (p.from <= day && day <= p.to && sent.from >= 0 && sent.from != p.address
                && !sent.head.containsKey("list") && sent.to.contains(p.address)
                && (last == null || last + p.days <= day)) {
            p.answered.put(sent.from, day);
            p.answers++;
            count('a');
        }
        captured = "";
        flags = 0;
        tried = 0;
        done = false;
        loop = false;
        kept = new HashSet<>();
        try {
            if (p.script >= 0) {
                run(p.script, Set.of());
            }
        } catch (EndOfScripts end) {
            // All scripts of this delivery are over.
        }
        if (!done || loop) {
            keep(0);
        }
    }

    private void run(int script, Set<Integer> outer) {
        Set<Integer> underWay = new HashSet<>(outer);
        underWay.add(script);
        for (Rule rule : scripts.get(script)) {
            if (tried++ == 60) {
                throw new EndOfScripts();
            }
            if (met(rule) == rule.turned) {
                continue;
            }
            switch (rule.action) {
                case 'k' -> keep(rule.n);
                case 'r' -> redirect(rule.n);
                case 'd' -> done = true;
                case 'm' -> flags |= rule.n;
                case 'x' -> throw new EndOfScripts();
                default -> {
                    if (underWay.contains(rule.n)) {
                        count('l');
                        loop = true;
                        throw new EndOfScripts();
                    }
                    if (rule.n < scripts.size()) {
                        run(rule.n, underWay);
                    }
                }
            }
        }
    }

    private void keep(int box) {
        done = true;
        if (kept.add(box)) {
            Person p = people.get(now.person);
            if (p.quota >= 0 && p.room() + sent.data.length() > p.quota) {
                count('f');
            } else {
                put(p.boxes[box], sent, flags);
            }
        }
    }

    private void redirect(int person) {
        if (person < people.size()) {
            if (now.was.contains(person) || copies >= 30) {
                count('c');
            } else {
                Set<Integer> was = new HashSet<>(now.was);
                was.add(person);
                waiting.add(new Copy(person, was));
                copies++;
                done = true;
            }
        }
    }

    private boolean met(Rule rule) {
        return switch (rule.test) {
            case 'a' -> true;
            case 'z' -> sent.data.length() > 10 * rule.pattern.length();
            case 's' -> matches(rule.pattern, sent.subject);
            case 'i' -> matches(rule.pattern, sent.list);
            case 'f' -> matches(rule.pattern, sent.from < 0 ? "" : spelled(sent.from));
            default -> sent.to.stream().anyMatch(to -> matches(rule.pattern, spelled(to)));
        };
    }

    private static String spelled(int address) {
        return "" + (char) ('a' + address / 10) + address % 10;
    }

    private boolean matches(String pattern, String text) {
        StringBuilder regex = new StringBuilder();
        boolean star = false;
        for (char c : pattern.toCharArray()) {
            if (c == '*') {
                regex.append(star ? ".*?" : "(.*?)");
                star = true;
            } else {
                regex.append(c == '?' ? "." : Pattern.quote(c == '$' ? captured : String.valueOf(c)));
            }
        }
        Matcher m = Pattern.compile(regex.toString(), Pattern.DOTALL).matcher(text);
        if (!m.matches()) {
            return false;
        }
        captured = !star ? "" : m.group(1).substring(0, Math.min(20, m.group(1).length()));
        return true;
    }

    // Threads

    private TreeMap<Integer, Mail> ones() {
        TreeMap<Integer, Mail> ones = new TreeMap<>();
        for (Mail mail : mails) {
            if (mail.id >= 0 && (!ones.containsKey(mail.id) || ones.get(mail.id).seal < mail.seal)) {
                ones.put(mail.id, mail);
            }
        }
        return ones;
    }

    private Map<Integer, Integer> parents() {
        TreeMap<Integer, Mail> ones = ones();
        Map<Integer, Integer> parents = new LinkedHashMap<>();
        for (int id : ones.keySet()) {
            List<Integer> others = new ArrayList<>(ones.get(id).refs);
            others.removeIf(ref -> ref == id || !ones.containsKey(ref));
            if (!others.isEmpty()) {
                int parent = others.get(others.size() - 1);
                boolean below = false;
                for (Integer up = parent; up != null; up = parents.get(up)) {
                    below |= up == id;
                }
                if (!below) {
                    parents.put(id, parent);
                }
            }
        }
        return parents;
    }

    /** The base, with "+" ahead of it if something was taken off in front, else "-". */
    private static String base(String subject) {
        String base = trimmed(small(subject));
        boolean front = false;
        boolean more = true;
        while (more) {
            more = false;
            String next = trimmed(base.replaceFirst("\\A(re:|fwd:)", ""));
            front |= !next.equals(base);
            more |= !next.equals(base);
            base = next;
            next = trimmed(base.replaceFirst("\\(fwd\\)\\z", ""));
            more |= !next.equals(base);
            base = next;
        }
        return (front ? "+" : "-") + base;
    }

    private Set<Integer> group(int id) {
        TreeMap<Integer, Mail> ones = ones();
        Map<Integer, Integer> parents = parents();
        Map<Integer, Set<Integer>> with = new HashMap<>();
        ones.keySet().forEach(one -> with.put(one, new HashSet<>()));
        parents.forEach((low, high) -> link(with, low, high));
        Map<Integer, Integer> firstRefs = new HashMap<>();
        for (Mail one : ones.values()) {
            if (!one.refs.isEmpty() && one.refs.stream().noneMatch(ones::containsKey)) {
                Integer other = firstRefs.putIfAbsent(one.refs.get(0), one.id);
                if (other != null) {
                    link(with, one.id, other);
                }
            }
            String base = base(one.subject);
            if (one.refs.isEmpty() && base.startsWith("+")) {
                ones.values().stream()
                        .filter(o -> o.refs.isEmpty() && base(o.subject).equals("-" + base.substring(1)))
                        .findFirst().ifPresent(o -> link(with, one.id, o.id));
            }
        }
        Set<Integer> group = new HashSet<>(Set.of(id));
        ArrayDeque<Integer> next = new ArrayDeque<>(group);
        while (!next.isEmpty()) {
            for (int other : with.get(next.remove())) {
                if (group.add(other)) {
                    next.add(other);
                }
            }
        }
        return group;
    }

    private static void link(Map<Integer, Set<Integer>> with, int one, int other) {
        with.get(one).add(other);
        with.get(other).add(one);
    }
}
