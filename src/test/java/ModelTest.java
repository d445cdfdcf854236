import java.util.ArrayList;
import java.util.Arrays;
import java.util.LinkedHashMap;
import java.util.List;
import java.util.Map;
import java.util.Objects;

/**
 * Long runs of calls, good and bad ones, against a second, plainer telling of the document. The
 * calls are chosen by a fixed row of numbers, so each run is the same each time.
 */
public final class ModelTest {
    private static final int RUNS = 4000;
    private static final int MOST_CALLS = 512;
    private static final String[] CALLS = {
        "type", "clearText", "clearTemplate", "addMessage", "messages", "setForms", "setBound", "merge",
        "entries", "active", "find", "translate", "confirm", "state", "isMarked", "slots", "textAt",
        "translationAt", "lengthOf", "fault", "count", "likeness", "guess", "guessByAll", "keep", "restore",
        "mergeKept"
    };
    private static final String[] WORDS = {
        "open 1", "opens 1", "open 2", "open", "a", "b", "c", "d", "file 1 of 2", "file 2 of 1", "files 1 of 2",
        "abcdefghijklmnopqrst", "abcdefghijklmnopqrs", "1 2 3", "3 2 1", "12 3", "ab", "ba", " ", "1", "2"
    };

    private final Catalogmend real = new Catalogmend();
    private final Model model = new Model();
    private final StringBuilder told = new StringBuilder();
    private long seed;
    private int calls;
    private boolean wrong;

    private ModelTest(long seed) {
        this.seed = seed * 2654435761L + 12345;
    }

    public static void main(String[] args) {
        int wrong = 0;
        Map<String, Integer> seen = new LinkedHashMap<>();
        for (int run = 0; run < RUNS && wrong < 3; run++) {
            ModelTest test = new ModelTest(run);
            test.run(seen);
            wrong += test.wrong ? 1 : 0;
        }
        for (String call : CALLS) {
            if (!seen.containsKey(call + " good")) {
                System.out.println(call + " was never answered");
                wrong++;
            }
        }
        for (String what : List.of("40 entries", "merge IllegalStateException", "mergeKept clash",
                "mergeKept IllegalStateException beyond", "marked and open", "merge guess")) {
            if (!seen.containsKey(what)) {
                System.out.println("no run met: " + what);
                wrong++;
            }
        }
        System.out.println(RUNS + " runs, " + wrong + " wrong");
        System.exit(wrong == 0 ? 0 : 1);
    }

    private int below(int bound) {
        seed = seed * 6364136223846793005L + 1442695040888963407L;
        return (int) ((seed >>> 33) % bound);
    }

    private void run(Map<String, Integer> seen) {
        int manner = below(4);
        int most = manner == 3 ? MOST_CALLS - 80 : 40 + below(MOST_CALLS - 240);
        while (calls < most && !wrong) {
            step(manner, seen);
            if (model.current.rows.size() == 40) {
                seen.merge("40 entries", 1, Integer::sum);
            }
        }
        askAll(seen);
        if (wrong) {
            System.out.println(told);
        }
    }

    /** One whole piece of work, or any one call. */
    private void step(int manner, Map<String, Integer> seen) {
        int choice = below(manner == 0 ? 60 : 24);
        if (manner == 3 && below(3) == 0) {
            fill(seen);
        } else if (choice < 5) {
            word(seen);
            for (int times = below(manner == 1 ? 9 : 3); times >= 0; times--) {
                call("addMessage", below(4), below(2), 0, seen);
            }
        } else if (choice < 7) {
            call("merge", 0, 0, 0, seen);
            int active = model.current.active;
            for (int entry = 0; entry < active && manner != 2; entry++) {
                call("translate", entry, 0, 0, seen);
                call("translate", entry, 1, 0, seen);
            }
        } else if (choice < 9) {
            word(seen);
            call("translate", below(Math.max(1, model.current.active)), below(2), 0, seen);
        } else if (choice == 9) {
            call("clearTemplate", 0, 0, 0, seen);
        } else if (choice == 10) {
            call("merge", 0, 0, 0, seen);
        } else if (choice == 11) {
            call("keep", below(2), 0, 0, seen);
        } else if (choice == 12) {
            call("restore", below(2), 0, 0, seen);
        } else if (choice == 13) {
            call("mergeKept", 0, 0, 0, seen);
        } else if (choice == 14) {
            call("setBound", 1 + below(100), 0, 0, seen);
        } else if (choice == 15) {
            word(seen);
            int context = below(4);
            int plural = below(2);
            call("guess", context, plural, 0, seen);
            call("guessByAll", context, plural, 0, seen);
            call("find", context, plural, 0, seen);
        } else {
            anyCall(seen);
        }
    }

    /** A new template of up to twelve messages, merged and translated, with few calls. */
    private void fill(Map<String, Integer> seen) {
        call("clearTemplate", 0, 0, 0, seen);
        for (int text = 0; text < 2; text++) {
            call("clearText", 0, 0, 0, seen);
            call("type", 'a' + below(26), 0, 0, seen);
            for (int key = 0; key < 8 - 4 * text; key++) {
                call("addMessage", key % 4, key / 4, 0, seen);
            }
        }
        call("merge", 0, 0, 0, seen);
        for (int entry = 0; entry < model.current.active; entry++) {
            call("translate", entry, 0, 0, seen);
        }
    }

    private void word(Map<String, Integer> seen) {
        call("clearText", 0, 0, 0, seen);
        String word = WORDS[below(WORDS.length)];
        for (int place = 0; place < word.length(); place++) {
            call("type", word.charAt(place), 0, 0, seen);
        }
    }

    private void anyCall(Map<String, Integer> seen) {
        String call = CALLS[below(CALLS.length)];
        int entries = model.current.rows.size();
        int first = below(8) == 0 ? below(60) - 10 : below(entries + 2) - (below(9) == 0 ? 1 : 0);
        switch (call) {
            case "type" -> first = "abcdefgz 123".charAt(below(12)) + (below(6) == 0 ? below(80) - 40 : 0);
            case "addMessage", "find", "guess", "guessByAll" -> first = below(9) == 0 ? below(8) - 2 : below(4);
            case "setForms" -> first = below(7) - 1;
            case "setBound" -> first = below(5) == 0 ? below(120) - 10 : 1 + below(100);
            case "count" -> first = below(9) == 0 ? below(9) - 3 : below(3);
            case "keep", "restore" -> first = below(9) == 0 ? below(5) - 2 : below(2);
            case "clearText", "clearTemplate", "merge", "mergeKept" -> first = 0;
            default -> { }
        }
        int second = switch (call) {
            case "textAt" -> below(24) - 1;
            case "likeness" -> below(entries + 2) - (below(9) == 0 ? 1 : 0);
            case "translationAt", "translate", "lengthOf" -> below(4) - (below(5) == 0 ? 1 : 0);
            default -> below(2);
        };
        call(call, first, second, below(24) - 1, seen);
    }

    /** What there is at the end, as far as the calls reach. */
    private void askAll(Map<String, Integer> seen) {
        call("messages", 0, 0, 0, seen);
        call("entries", 0, 0, 0, seen);
        call("active", 0, 0, 0, seen);
        for (int state = 0; state < 3; state++) {
            call("count", state, 0, 0, seen);
        }
        for (int entry = 0; entry < model.current.rows.size(); entry++) {
            Row row = model.current.rows.get(entry);
            if (row.marked && row.state() == 0) {
                seen.merge("marked and open", 1, Integer::sum);
            }
            call("isMarked", entry, 0, 0, seen);
            call("state", entry, 0, 0, seen);
            call("fault", entry, 0, 0, seen);
            call("textAt", entry, row.text.length() - 1, 0, seen);
            for (int slot = 0; slot < row.slots.length; slot++) {
                call("lengthOf", entry, slot, 0, seen);
                call("translationAt", entry, slot, 0, seen);
            }
        }
        for (int entry = 0; entry < model.current.rows.size(); entry++) {
            for (int place = 0; place <= model.current.rows.get(entry).text.length(); place++) {
                call("textAt", entry, place, 0, seen);
            }
        }
    }

    private void call(String name, int a, int b, int c, Map<String, Integer> seen) {
        if (calls >= MOST_CALLS || wrong) {
            return;
        }
        calls++;
        int before = model.current.rows.size();
        String want = Checks.answer(() -> model.answer(name, a, b, c));
        String got = Checks.answer(() -> real(name, a, b, c));
        told.append(name).append('(').append(a).append(", ").append(b).append(", ").append(c).append(") = ");
        told.append(got).append('\n');
        if (!got.equals(want)) {
            wrong = true;
            told.append("due is ").append(want).append('\n');
        }
        boolean good = !want.startsWith("I");
        seen.merge(name + (good ? " good" : " " + want), 1, Integer::sum);
        if (name.equals("mergeKept") && !good && model.kept[0] != null && model.kept[1] != null) {
            seen.merge("mergeKept IllegalStateException beyond", 1, Integer::sum);
        }
        if (name.equals("mergeKept") && good && !want.equals("0")) {
            seen.merge("mergeKept clash", 1, Integer::sum);
        }
        if (name.equals("merge") && good && !want.equals("0") && before > 0) {
            seen.merge("merge guess", 1, Integer::sum);
        }
    }

    private Object real(String name, int a, int b, int c) {
        switch (name) {
            case "type": return real.type((char) a);
            case "clearText": return real.clearText();
            case "clearTemplate": return real.clearTemplate();
            case "addMessage": return real.addMessage(a, b == 1);
            case "messages": return real.messages();
            case "setForms": return real.setForms(a);
            case "setBound": return real.setBound(a);
            case "merge": return real.merge();
            case "entries": return real.entries();
            case "active": return real.active();
            case "find": return real.find(a, b == 1);
            case "translate": return real.translate(a, b);
            case "confirm": real.confirm(a); return 0;
            case "state": return real.state(a);
            case "isMarked": return real.isMarked(a);
            case "slots": return real.slots(a);
            case "textAt": return real.textAt(a, b);
            case "translationAt": return real.translationAt(a, b, c);
            case "lengthOf": return real.lengthOf(a, b);
            case "fault": return real.fault(a);
            case "count": return real.count(a);
            case "likeness": return real.likeness(a, b);
            case "guess": return real.guess(a, b == 1);
            case "guessByAll": return real.guessByAll(a, b == 1);
            case "keep": real.keep(a); return 0;
            case "restore": return real.restore(a);
            default: return real.mergeKept();
        }
    }

    private static final class Row {
        final String text;
        final int context;
        final boolean plural;
        String[] slots;
        boolean marked;

        Row(String text, int context, boolean plural, String[] slots, boolean marked) {
            this.text = text;
            this.context = context;
            this.plural = plural;
            this.slots = slots.clone();
            this.marked = marked;
        }

        String key() {
            return text + "/" + context + "/" + plural;
        }

        Row copy() {
            return new Row(text, context, plural, slots, marked);
        }

        boolean full() {
            return !Arrays.asList(slots).contains(null);
        }

        boolean some() {
            return Arrays.stream(slots).anyMatch(Objects::nonNull);
        }

        int state() {
            return !full() ? 0 : marked ? 1 : 2;
        }
    }

    private static final class Shelf {
        final List<Row> rows = new ArrayList<>();
        int active;

        Shelf copy() {
            Shelf copy = new Shelf();
            for (Row row : rows) {
                copy.rows.add(row.copy());
            }
            copy.active = active;
            return copy;
        }

        Row with(String key) {
            for (Row row : rows) {
                if (row.key().equals(key)) {
                    return row;
                }
            }
            return null;
        }
    }

    /** The document told again, without any thought of speed or of what is made. */
    private static final class Model {
        String buffer = "";
        List<Row> template = new ArrayList<>();
        Shelf current = new Shelf();
        final Shelf[] kept = new Shelf[2];
        int forms = 2;
        int bound = 60;

        Object answer(String name, int a, int b, int c) {
            switch (name) {
                case "type": return type((char) a);
                case "clearText": { int had = buffer.length(); buffer = ""; return had; }
                case "clearTemplate": { int had = template.size(); template = new ArrayList<>(); return had; }
                case "addMessage": return addMessage(a, b == 1);
                case "messages": return template.size();
                case "setForms": return setForms(a);
                case "setBound": {
                    argument(a >= 1 && a <= 100);
                    int had = bound;
                    bound = a;
                    return had;
                }
                case "merge": return merge();
                case "entries": return current.rows.size();
                case "active": return current.active;
                case "find": {
                    argument(a >= 0 && a <= 3);
                    return current.rows.indexOf(current.with(buffer + "/" + a + "/" + (b == 1)));
                }
                case "translate": return translate(a, b);
                case "confirm": {
                    Row row = row(a);
                    state(row.marked);
                    row.marked = false;
                    return 0;
                }
                case "state": return row(a).state();
                case "isMarked": return row(a).marked;
                case "slots": return row(a).slots.length;
                case "textAt": {
                    Row row = row(a);
                    index(b >= 0);
                    return b < row.text.length() ? row.text.charAt(b) : ' ';
                }
                case "translationAt": {
                    String text = slot(a, b);
                    index(c >= 0);
                    return text != null && c < text.length() ? text.charAt(c) : ' ';
                }
                case "lengthOf": { String text = slot(a, b); return text == null ? 0 : text.length(); }
                case "fault": return fault(row(a));
                case "count": {
                    argument(a >= 0 && a <= 2);
                    return (int) current.rows.subList(0, current.active).stream()
                            .filter(row -> row.state() == a).count();
                }
                case "likeness": return likeness(row(a).text, row(b).text);
                case "guess": case "guessByAll": {
                    argument(a >= 0 && a <= 3);
                    state(!buffer.isEmpty());
                    return current.rows.indexOf(guess(buffer, a, b == 1));
                }
                case "keep": {
                    index(a == 0 || a == 1);
                    kept[a] = current.copy();
                    return 0;
                }
                case "restore": {
                    index(a == 0 || a == 1);
                    state(kept[a] != null);
                    current = kept[a].copy();
                    return current.rows.size();
                }
                default: return mergeKept();
            }
        }

        static void argument(boolean good) {
            if (!good) {
                throw new IllegalArgumentException();
            }
        }

        static void state(boolean good) {
            if (!good) {
                throw new IllegalStateException();
            }
        }

        static void index(boolean good) {
            if (!good) {
                throw new IndexOutOfBoundsException();
            }
        }

        Row row(int number) {
            index(number >= 0 && number < current.rows.size());
            return current.rows.get(number);
        }

        String slot(int number, int slot) {
            Row row = row(number);
            index(slot >= 0 && slot < row.slots.length);
            return row.slots[slot];
        }

        int type(char character) {
            argument("abcdefghijklmnopqrstuvwxyz 123".indexOf(character) >= 0);
            state(buffer.length() < 20);
            buffer += character;
            return buffer.length();
        }

        int addMessage(int context, boolean plural) {
            argument(context >= 0 && context <= 3);
            Row message = new Row(buffer, context, plural, new String[0], false);
            state(!buffer.isEmpty() && template.size() < 12);
            state(template.stream().noneMatch(other -> other.key().equals(message.key())));
            template.add(message);
            return template.size();
        }

        int setForms(int asked) {
            argument(asked >= 1 && asked <= 4);
            state(current.rows.isEmpty() && kept[0] == null && kept[1] == null);
            int had = forms;
            forms = asked;
            return had;
        }

        int translate(int number, int slot) {
            slot(number, slot);
            state(!buffer.isEmpty() && number < current.active);
            Row row = row(number);
            row.slots[slot] = buffer;
            row.marked = false;
            return (int) Arrays.stream(row.slots).filter(Objects::isNull).count();
        }

        int merge() {
            Shelf merged = new Shelf();
            List<Row> rest = new ArrayList<>(current.rows);
            int guessed = 0;
            for (Row message : template) {
                Row old = current.with(message.key());
                rest.remove(old);
                if (old == null) {
                    Row guess = guess(message.text, message.context, message.plural);
                    String[] slots = guess != null ? guess.slots : new String[message.plural ? forms : 1];
                    old = new Row(message.text, message.context, message.plural, slots, guess != null);
                    guessed += guess != null ? 1 : 0;
                }
                merged.rows.add(old.copy());
            }
            merged.active = merged.rows.size();
            rest.removeIf(row -> !row.some());
            merged.rows.addAll(rest);
            state(merged.rows.size() <= 40);
            current = merged;
            return guessed;
        }

        Row guess(String text, int context, boolean plural) {
            int greatest = current.rows.stream().filter(row -> row.full() && row.plural == plural)
                    .mapToInt(row -> likeness(text, row.text)).max().orElse(-1);
            if (greatest < bound) {
                return null;
            }
            List<Row> best = current.rows.stream().filter(row -> row.full() && row.plural == plural)
                    .filter(row -> likeness(text, row.text) == greatest).toList();
            return best.stream().filter(row -> row.context == context).findFirst().orElse(best.get(0));
        }

        static int likeness(String one, String another) {
            int[][] least = new int[one.length() + 1][another.length() + 1];
            for (int i = 0; i <= one.length(); i++) {
                for (int j = 0; j <= another.length(); j++) {
                    if (i == 0 || j == 0) {
                        least[i][j] = i + j;
                        continue;
                    }
                    int exchange = one.charAt(i - 1) == another.charAt(j - 1) ? 0 : 1;
                    int changed = Math.min(least[i - 1][j], least[i][j - 1]) + 1;
                    least[i][j] = Math.min(changed, least[i - 1][j - 1] + exchange);
                }
            }
            int longer = Math.max(one.length(), another.length());
            return 100 * (longer - least[one.length()][another.length()]) / longer;
        }

        static int fault(Row row) {
            int fault = 0;
            String digits = row.text.replaceAll("[^1-3]", "");
            for (String translation : row.slots) {
                if (translation == null) {
                    continue;
                }
                String others = translation.replaceAll("[^1-3]", "");
                if (!sorted(digits).equals(sorted(others))) {
                    return 2;
                }
                fault = digits.equals(others) ? fault : 1;
            }
            return fault;
        }

        static String sorted(String digits) {
            char[] signs = digits.toCharArray();
            Arrays.sort(signs);
            return new String(signs);
        }

        int mergeKept() {
            state(kept[0] != null && kept[1] != null);
            Shelf merged = current.copy();
            int clashes = 0;
            for (Row mine : merged.rows) {
                Row theirs = kept[1].with(mine.key());
                Row elder = kept[0].with(mine.key());
                for (int slot = 0; theirs != null && slot < mine.slots.length; slot++) {
                    String a = mine.slots[slot];
                    String b = theirs.slots[slot];
                    String c = elder == null ? null : elder.slots[slot];
                    if (Objects.equals(b, a) || Objects.equals(b, c)) {
                        continue;
                    }
                    if (Objects.equals(a, c)) {
                        mine.slots[slot] = b;
                        mine.marked |= theirs.marked;
                    } else {
                        clashes++;
                        mine.marked = true;
                    }
                }
            }
            for (Row theirs : kept[1].rows) {
                if (current.with(theirs.key()) == null && theirs.some()) {
                    merged.rows.add(theirs.copy());
                }
            }
            state(merged.rows.size() <= 40);
            current = merged;
            return clashes;
        }
    }
}
