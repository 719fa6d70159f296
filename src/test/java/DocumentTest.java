import java.io.IOException;
import java.nio.file.Files;
import java.nio.file.Path;
import java.util.Arrays;
import java.util.LinkedHashMap;
import java.util.List;
import java.util.Map;

/**
 * Every sentence of the document has a test of its own: the words that the tests name stand in the document, and no
 * word of it is left over, from its first line to its last promise. It is run from the project's root.
 */
public final class DocumentTest {
    private static final List<Runnable> TESTS = List.of(
        WhatItIsTest::sentences, FaceTest::sentences, NewObjectTest::sentences, AddTest::sentences,
        StartTest::sentences, RunTest::sentences, ClockTest::sentences, ResetTest::sentences, StateTest::sentences,
        LookTest::sentences, WaitingTest::sentences, ChannelTest::sentences, MessageTest::sentences,
        TermsTest::sentences, InstructionsTest::sentences, AwaitTest::sentences, StepTest::sentences,
        RefusedTest::sentences);

    public static void main(String[] args) throws IOException {
        Map<String, String> sections = sections(Files.readString(Path.of("../shared/DOC.md")));
        Map<String, boolean[]> named = new LinkedHashMap<>();
        sections.forEach((section, text) -> named.put(section, new boolean[text.length()]));
        for (Due.Sentence sentence : Due.sentencesOf(TESTS)) {
            String text = sections.getOrDefault(sentence.section(), "");
            int at = text.indexOf(sentence.words());
            Due.is(sentence + ": stands in the document", at < 0 ? 0 : 1, 1);
            if (at >= 0) {
                Arrays.fill(named.get(sentence.section()), at, at + sentence.words().length(), true);
            }
        }
        Due.is("sections", sections.size(), 19);
        for (String section : sections.keySet()) {
            if (!section.equals("Not promised")) {
                Due.same("what has no test in " + section, leftOver(sections.get(section), named.get(section)), "");
            }
        }
        Due.end();
    }

    /** The text of each section by its heading, up to a colon; a promise's signature is FaceTest's. */
    private static Map<String, String> sections(String document) {
        Map<String, String> found = new LinkedHashMap<>();
        for (String part : document.split("(?m)^## ")) {
            int end = Math.max(part.indexOf('\n'), 0);
            String heading = part.substring(0, end).replaceAll(":.*", "").strip();
            String text = part.substring(end).replaceAll("(?m)^```.*$", "").replaceAll("`[^`]*`:", "");
            found.put(heading, text.replaceAll("\\s+", " "));
        }
        return found;
    }

    private static String leftOver(String text, boolean[] named) {
        StringBuilder left = new StringBuilder();
        for (int i = 0; i < named.length; i++) {
            left.append(named[i] ? ' ' : text.charAt(i));
        }
        return left.toString().replaceAll("\\s+", " ").strip();
    }
}
