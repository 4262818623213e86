import java.io.IOException;
import java.lang.reflect.Method;
import java.nio.file.Files;
import java.nio.file.Path;
import java.util.ArrayList;
import java.util.List;
import java.util.Set;
import java.util.TreeMap;
import java.util.TreeSet;
import java.util.regex.Matcher;
import java.util.regex.Pattern;

/** Every sentence of the document that names a boundary is quoted by a test, and quoted rightly. */
final class SentenceTests {
  private static final Path DOCUMENT =
      Path.of(System.getProperty("document", "../shared/DOC.md"));
  private static final int TERMS = 0;

  /** What only names or explains something, so that there is no other side to it. */
  private static final Set<String> WITHOUT_BOUNDARY = Set.of(
      "A scheduler and simulator for a recipe.",
      "A recipe is a list of steps with precedence constraints.",
      "Steps need cooks and pans, which are limited, reusable resources.",
      "The simulator starts ready steps by critical-path priority, one minute after the other, and "
          + "hot results that nobody continues with burn.",
      "The simulation of one minute has four phases:",
      "The grammar is as follows, with literal words in quotes:",
      "Returns the pan type that a step needs.",
      "Tells whether a step is hot.",
      "Tells whether a step is unattended.",
      "Returns a predecessor of a step.",
      "Returns a letter of the name of a step.",
      "Returns the remaining time of a step.",
      "Returns the age of a step.",
      "Tells whether a step is done and taken up.",
      "Returns a ready step by its position.",
      "Tells why a step is not running.",
      "Returns the step that blocks a step.",
      "Returns the step at the root of a chain of unfinished predecessors.",
      "Tells why the dish cannot be served.",
      "Returns a step of the critical path.",
      "Returns the slack of a step.",
      "Returns the status that a step will have.",
      "Returns the step whose duration matters most.",
      "Returns the salt that would correct the taste of the finished dish.",
      "Returns the share of steps that are done.",
      "Returns the mean duration.",
      "Checks the internal consistency of the state.",
      "Returns a byte of the output text.");
  /** The sections of the interface but the one of the forecasts only list their calls. */
  private static final String LIST_OF_CALLS =
      "Ahead of the calls .* ---- (input|recipe|progress|changes|undo, saved states, output)\\.";

  private SentenceTests() {}

  static void termsEveryQuoteStandsInTheDocument() throws IOException {
    TreeMap<Integer, TreeSet<String>> document = document();
    for (Class<?> tests : AllTests.TESTS) {
      for (Method test : tests.getDeclaredMethods()) {
        for (String sentence : quotedBy(test)) {
          Kit.due(test.getName() + " quotes \"" + sentence + "\" of its promise",
              document.get(sectionOf(test)).contains(sentence), true);
        }
      }
    }
  }

  static void termsEverySentenceWithABoundaryIsQuoted() throws IOException {
    TreeMap<Integer, TreeSet<String>> open = document();
    for (Class<?> tests : AllTests.TESTS) {
      for (Method test : tests.getDeclaredMethods()) {
        for (String sentence : quotedBy(test)) {
          open.get(sectionOf(test)).remove(sentence);
        }
      }
    }
    List<String> left = new ArrayList<>();
    for (int promise : open.keySet()) {
      for (String sentence : open.get(promise)) {
        if (!WITHOUT_BOUNDARY.contains(sentence) && !sentence.matches(LIST_OF_CALLS)) {
          left.add(promise + ": " + sentence);
        }
      }
    }
    Kit.due("sentences without a test", String.join("\n", left), "");
  }

  static void termsNoSentenceIsLeftOutForNothing() throws IOException {
    TreeSet<String> all = new TreeSet<>();
    document().values().forEach(all::addAll);
    for (String sentence : WITHOUT_BOUNDARY) {
      Kit.due("the document has \"" + sentence + "\"", all.contains(sentence), true);
    }
  }

  private static String[] quotedBy(Method test) {
    Sentence quoted = test.getAnnotation(Sentence.class);
    return quoted == null ? new String[0] : quoted.value();
  }

  private static int sectionOf(Method test) {
    Matcher name = Pattern.compile("promise(\\d+).*").matcher(test.getName());
    return name.matches() ? Integer.parseInt(name.group(1)) : TERMS;
  }

  /** The sentences by promise. The face, which is code, and the last section are left out. */
  private static TreeMap<Integer, TreeSet<String>> document() throws IOException {
    TreeMap<Integer, TreeSet<String>> sentences = new TreeMap<>();
    TreeSet<String> section = new TreeSet<>();
    for (String line : Files.readAllLines(DOCUMENT)) {
      Matcher title = Pattern.compile("#+ (Promise (\\d+)|.*).*").matcher(line);
      if (title.matches()) {
        int promise = title.group(2) == null ? TERMS : Integer.parseInt(title.group(2));
        boolean counts = !line.matches("## (The public face|Not promised)");
        section = counts ? sentences.computeIfAbsent(promise, p -> new TreeSet<>())
            : new TreeSet<>();
      } else {
        addSentences(section, line);
      }
    }
    return sentences;
  }

  /** A sentence begins behind the mark of a list, a title or the signature of a method. */
  private static void addSentences(Set<String> section, String line) {
    String text = line.replaceFirst("^- |^\\d\\. |^[A-Z]\\w+( \\w+)?\\. ", "")
        .replaceFirst("^`[^`]*\\([^`]*`: ", "");
    for (String sentence : text.split("(?<=\\.) (?=[A-Z])")) {
      if (!sentence.isEmpty()) {
        section.add(sentence);
      }
    }
  }
}
