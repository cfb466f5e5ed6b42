import java.io.IOException;
import java.nio.file.Files;
import java.nio.file.Path;
import java.util.ArrayList;
import java.util.LinkedHashMap;
import java.util.List;
import java.util.Map;

/** ../shared/DOC.md, section by section, and which of its words some test stands for. */
final class SafetyPinsDocument {
    static final String FACE = "The public face";

    /** Words by which nothing is asked that a test could see; all others need a test. */
    private static final String[] FREE = {
        // tells beforehand what the terms and the promises say again
        "Safety was an afterthought, and it took: ", "seasons by a seed; kept and gone on from.",
        "what later calls answer is free."};

    private static final Map<String, String> sections = new LinkedHashMap<>();
    private static final Map<String, boolean[]> met = new LinkedHashMap<>();

    private SafetyPinsDocument() { }

    private static void read() {
        if (!sections.isEmpty()) {
            return;
        }
        for (String part : raw().split("(?m)^## ")) {
            int end = part.indexOf('\n');
            String words = part.substring(end + 1).replaceAll("```(text|java)?|==== [0-9]", " ");
            sections.put(part.substring(0, end).trim(), words.replaceAll("\\s+", " "));
        }
        sections.forEach((name, words) -> met.put(name, new boolean[words.length()]));
        String is = "What it is";
        int from = sections.get(is).indexOf(FREE[0]);
        int to = sections.get(is).indexOf(FREE[1]) + FREE[1].length();
        mark(is, sections.get(is).substring(from, to));
        mark(is, FREE[2]);
    }

    private static String raw() {
        try {
            return Files.readString(Path.of("../shared/DOC.md"));
        } catch (IOException e) {
            throw new IllegalStateException("no ../shared/DOC.md", e);
        }
    }

    static String section(String name) {
        read();
        return sections.get(name);
    }

    /** The section of a promise. */
    static String promise(int number) {
        read();
        for (String name : sections.keySet()) {
            if (name.startsWith("Promise " + number + ":")) {
                return sections.get(name);
            }
        }
        throw new IllegalStateException("no promise " + number);
    }

    /** A test stands for these words, of this promise or of what is told for all; false if they are not there. */
    static boolean meet(int promise, String words) {
        read();
        boolean isThere = false;
        for (String name : sections.keySet()) {
            if (!name.startsWith("Promise ") || name.startsWith("Promise " + promise + ":")) {
                isThere |= mark(name, words);
            }
        }
        return isThere;
    }

    private static boolean mark(String name, String words) {
        String section = sections.get(name);
        int at = section.indexOf(words);
        boolean isThere = at >= 0;
        while (at >= 0) {
            for (int i = at; i < at + words.length(); i++) {
                met.get(name)[i] = true;
            }
            at = section.indexOf(words, at + 1);
        }
        return isThere;
    }

    /** The words that no test stands for, but for those behind the promises. */
    static List<String> unmet() {
        read();
        List<String> bare = new ArrayList<>();
        for (String name : sections.keySet()) {
            if (!name.startsWith("#") && !name.equals("Not promised")) {
                unmetOf(name, bare);
            }
        }
        return bare;
    }

    private static void unmetOf(String name, List<String> bare) {
        String section = sections.get(name);
        boolean[] isMet = met.get(name);
        int from = 0;
        for (int i = 0; i <= isMet.length; i++) {
            if (i == isMet.length || isMet[i]) {
                String words = section.substring(from, i);
                if (words.matches(".*[A-Za-z0-9].*")) {
                    bare.add(name + ": " + words.trim());
                }
                from = i + 1;
            }
        }
    }
}
