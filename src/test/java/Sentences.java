import java.io.IOException;
import java.nio.file.Files;
import java.nio.file.Path;
import java.util.HashMap;
import java.util.LinkedHashMap;
import java.util.Map;
import java.util.function.Consumer;

/**
 * The document, sentence by sentence. A test is given the sentence that it stands for, and the sentence must stand in
 * the section that is named; at the end no part of a section may be left that has no test and is not said to be plain.
 */
final class Sentences {
    private static final Path DOCUMENT = Path.of("../shared/DOC.md");

    private final Check check;
    private final Map<String, String> texts = new LinkedHashMap<>();
    private final Map<String, boolean[]> covered = new HashMap<>();
    private String section = "";
    private String place = "";
    private int tests;

    Sentences(String test) throws IOException {
        check = new Check(test);
        readSections(Files.readString(DOCUMENT));
        // These three promise nothing about a call: the name, the face (FaceTest looks at it), and what is left free.
        for (String heading : new String[] {"PoisonedMemory", "The public face", "Not promised"}) {
            texts.remove(heading);
        }
    }

    private void readSections(String document) {
        String heading = "";
        StringBuilder text = new StringBuilder();
        for (String line : (document + "\n# ").split("\n")) {
            if (line.startsWith("#")) {
                addSection(heading, text.toString());
                heading = line.replaceFirst("^#+ *", "").replaceFirst("^(Promise \\d+):.*", "$1");
                text.setLength(0);
            } else if (!line.startsWith("```")) {
                text.append(line).append(' ');
            }
        }
    }

    private void addSection(String heading, String text) {
        String plain = text.replaceAll("\\s+", " ").strip();
        texts.put(heading, plain);
        boolean[] places = new boolean[plain.length()];
        // A promise begins with its signature, which is a matter of the face.
        if (heading.startsWith("Promise ")) {
            for (int i = 0; i <= plain.indexOf("`:"); i++) {
                places[i] = true;
            }
        }
        covered.put(heading, places);
    }

    void section(String name) {
        section = name;
        place = name;
        if (!texts.containsKey(name)) {
            check.fail("the document has no section " + name);
        }
    }

    /** The test that stands for one sentence, on a new object. */
    void says(String sentence, Consumer<PoisonedMemory> test) {
        cover(sentence);
        place = section + ", \"" + sentence + "\"";
        tests++;
        try {
            test.accept(new PoisonedMemory());
        } catch (RuntimeException thrown) {
            check.fail(place + ": a call threw " + thrown);
        }
        place = section;
    }

    /** Sentences that name no boundary: what they say is looked at by the tests of the promises. */
    void plain(String... sentences) {
        for (String sentence : sentences) {
            cover(sentence);
        }
    }

    private void cover(String sentence) {
        String text = texts.getOrDefault(section, "");
        boolean[] places = covered.getOrDefault(section, new boolean[0]);
        int start = text.indexOf(sentence);
        while (start >= 0 && places[start]) {
            start = text.indexOf(sentence, start + 1);
        }
        if (start < 0) {
            check.fail(section + " does not say (any more) \"" + sentence + "\"");
            return;
        }
        for (int i = start; i < start + sentence.length(); i++) {
            places[i] = true;
        }
    }

    void due(String call, double got, double want) {
        check.due(place + ": " + call, got, want);
    }

    void finish() {
        for (Map.Entry<String, String> entry : texts.entrySet()) {
            reportLeft(entry.getKey(), entry.getValue(), covered.get(entry.getKey()));
        }
        System.out.println(tests + " sentences of the document have a test of their own");
        check.finish();
    }

    private void reportLeft(String heading, String text, boolean[] places) {
        StringBuilder left = new StringBuilder();
        for (int i = 0; i < places.length; i++) {
            left.append(places[i] ? '\n' : text.charAt(i));
        }
        for (String part : left.toString().split("\n")) {
            if (part.matches(".*[A-Za-z0-9].*")) {
                check.fail(heading + ": no test stands for \"" + part.strip() + "\"");
            }
        }
    }
}
