import java.util.ArrayList;
import java.util.HashSet;
import java.util.LinkedHashSet;
import java.util.List;
import java.util.Set;
import java.util.TreeMap;
import java.util.regex.Matcher;
import java.util.regex.Pattern;

/** The document's sentences that name a boundary: each test stands under one, and none goes without a test. */
final class Sentences {
    static final int TERMS = 0;
    private static final Pattern HEAD = Pattern.compile("(?m)^## (?:(Terms)|Promise (\\d+):).*$|^## .*$");
    private static final Pattern BOUNDARY_LINE =
            Pattern.compile("Throws `.*|- `\\w+`: .*(\\d|'w'|that is left|stays as it is|a vertex|another).*");

    private final Checks checks;
    private final TreeMap<Integer, String> sections = new TreeMap<>();
    private final Set<String> tested = new HashSet<>();

    Sentences(String document, Checks checks) {
        this.checks = checks;
        Matcher head = HEAD.matcher(document);
        int section = -1;
        int from = 0;
        while (head.find()) {
            keep(section, document.substring(from, head.start()));
            section = head.group(1) != null ? TERMS : head.group(2) != null ? Integer.parseInt(head.group(2)) : -1;
            from = head.end();
        }
        keep(section, document.substring(from));
    }

    private void keep(int section, String text) {
        if (section >= 0) {
            sections.put(section, text);
        }
    }

    private static String inOneLine(String text) {
        return text.replaceAll("\\s+", " ").trim();
    }

    private static String nameOf(int section) {
        return section == TERMS ? "Terms" : "Promise " + section;
    }

    /** Runs the test of some words, which must stand in the section as they are. */
    void test(int section, String words, Runnable test) {
        checks.under(nameOf(section) + ", " + words);
        checks.holds("the words stand there", inOneLine(sections.getOrDefault(section, "")).contains(words));
        checks.holds("they have one test", tested.add(section + " " + words));
        int before = checks.count();
        test.run();
        checks.holds("something is tested", checks.count() > before);
        checks.under("");
    }

    /** Each line on an exception or a range has a test, and so has each sentence of the terms. */
    void allAreTested() {
        checks.is("the terms and 39 promises", 40, sections::size);
        for (int section : sections.keySet()) {
            for (String words : section == TERMS ? sentencesOfTerms() : boundaryLines(section)) {
                checks.holds(nameOf(section) + " has a test of: " + words, isTested(section, words));
            }
        }
    }

    private boolean isTested(int section, String words) {
        if (section != TERMS) {
            return tested.contains(section + " " + words);
        }
        boolean isTested = false;
        for (String one : tested) {
            isTested |= one.startsWith("0 ") && words.contains(one.substring(2));
        }
        return isTested;
    }

    private List<String> boundaryLines(int section) {
        List<String> lines = new ArrayList<>();
        for (String line : sections.get(section).split("\n")) {
            if (BOUNDARY_LINE.matcher(line).matches()) {
                lines.add(line);
            }
        }
        return lines;
    }

    /** What comes "ahead of the calls" are the interface's own headings; single words are the terms' own ones. */
    private Set<String> sentencesOfTerms() {
        Set<String> sentences = new LinkedHashSet<>();
        for (String paragraph : sections.get(TERMS).split("\n\n")) {
            if (paragraph.startsWith("Ahead of the calls")) {
                continue;
            }
            for (String sentence : inOneLine(paragraph).split("(?<=\\.) (?=[A-Z])")) {
                if (sentence.split(" ").length > 3) {
                    sentences.add(sentence);
                }
            }
        }
        return sentences;
    }
}
