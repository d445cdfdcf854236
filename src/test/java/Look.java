import java.util.ArrayList;
import java.util.List;
import java.util.function.Function;
import java.util.function.Supplier;

/** Telling what an object holds as a text, by the calls of its face. */
final class Look {
    private static final int ENTRIES_A_LOOK = 2;
    private static final int MESSAGES_A_LOOK = 3;
    private static final int LONGEST = 20;

    private Look() {
    }

    /**
     * All there is to be seen of such an object. Each look goes at a new object, as it changes
     * what it looks at, and as an object has 512 calls only.
     */
    static List<Function<Catalogmend, String>> looksAt(Supplier<Catalogmend> made) {
        List<Function<Catalogmend, String>> looks = new ArrayList<>();
        looks.add(Look::buffer);
        looks.add(Look::forms);
        looks.add(c -> "setForms " + Checks.answer(() -> c.setForms(4)));
        looks.add(c -> "bound " + c.setBound(50));
        for (int first = 0; first < 12; first += MESSAGES_A_LOOK) {
            int from = first;
            looks.add(c -> template(c, from));
        }
        addEntries(looks, made.get().entries(), c -> "");
        for (int place = 0; place < 2; place++) {
            int kept = place;
            Catalogmend restored = made.get();
            String answer = Checks.answer(() -> restored.restore(kept));
            int entries = answer.startsWith("I") ? 0 : restored.entries();
            addEntries(looks, entries, c -> Checks.answer(() -> c.restore(kept)));
        }
        return looks;
    }

    private static void addEntries(List<Function<Catalogmend, String>> looks, int entries,
            Function<Catalogmend, String> ahead) {
        for (int first = 0; first <= entries; first += ENTRIES_A_LOOK) {
            int from = first;
            looks.add(c -> ahead.apply(c) + " entries " + c.entries() + " active " + c.active() + " "
                    + closely(c, from, from + ENTRIES_A_LOOK));
        }
    }

    private static String buffer(Catalogmend c) {
        StringBuilder all = new StringBuilder("buffer ");
        if (c.active() == 0) {
            c.clearTemplate();
            Checks.answer(() -> c.addMessage(0, false));
            Checks.answer(c::merge);
        }
        all.append(Checks.answer(() -> c.translate(0, 0))).append(' ');
        all.append(c.active() > 0 ? translation(c, 0, 0) : "");
        return all.append(' ').append(c.clearText()).toString();
    }

    private static String forms(Catalogmend c) {
        c.clearTemplate();
        Checks.add(c, "zzz", 3, true);
        String merged = Checks.answer(c::merge);
        return "forms " + merged + " " + Checks.answer(() -> c.slots(0));
    }

    private static String template(Catalogmend c, int from) {
        c.setBound(100);
        String told = "messages " + c.messages() + " merged " + Checks.answer(c::merge) + " ";
        return told + closely(c, from, Math.min(c.active(), from + MESSAGES_A_LOOK));
    }

    /** The entries from and to these numbers, with contexts too; this empties the buffer. */
    private static String closely(Catalogmend c, int from, int to) {
        StringBuilder all = new StringBuilder();
        for (int entry = from; entry < to && entry < c.entries(); entry++) {
            String text = text(c, entry, LONGEST + 1);
            all.append(entry(c, entry, text)).append(" (");
            all.append(c.slots(entry)).append(' ').append(c.state(entry)).append(' ').append(c.fault(entry));
            Checks.put(c, text);
            for (int key = 0; key < 8; key++) {
                all.append(c.find(key % 4, key >= 4) == entry ? " key " + key : "");
            }
            all.append("); ");
        }
        return all.toString();
    }

    static String text(Catalogmend c, int entry, int places) {
        StringBuilder text = new StringBuilder();
        for (int place = 0; place < places; place++) {
            text.append(c.textAt(entry, place));
        }
        return text.toString().stripTrailing();
    }

    static String translation(Catalogmend c, int entry, int slot) {
        StringBuilder text = new StringBuilder();
        int length = c.lengthOf(entry, slot);
        for (int place = 0; place < length; place++) {
            text.append(c.translationAt(entry, slot, place));
        }
        return text.toString();
    }

    private static String shortText(Catalogmend c, int entry) {
        StringBuilder text = new StringBuilder();
        while (text.indexOf("  ") < 0 && text.length() < LONGEST) {
            text.append(c.textAt(entry, text.length()));
        }
        return text.toString().stripTrailing();
    }

    private static String entry(Catalogmend c, int entry, String text) {
        StringBuilder all = new StringBuilder(text);
        all.append(c.isMarked(entry) ? " ? " : " = ");
        int slots = c.slots(entry);
        for (int slot = 0; slot < slots; slot++) {
            all.append(slot == 0 ? "" : "|").append(translation(c, entry, slot));
        }
        return all.toString();
    }

    /**
     * The entries of a small catalogue: "open 1 ? auf 1" is a guess, " = " stands for no mark, "|"
     * between slots, and a star behind the active ones. A text ends ahead of two spaces here.
     */
    static String entries(Catalogmend c) {
        StringBuilder all = new StringBuilder();
        int entries = c.entries();
        int active = c.active();
        for (int entry = 0; entry < entries; entry++) {
            all.append(entry == active ? "* " : "").append(entry(c, entry, shortText(c, entry))).append("; ");
        }
        return all.append(active == entries ? "*" : "").toString();
    }
}
