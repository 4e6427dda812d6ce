import java.io.IOException;
import java.nio.file.Files;
import java.nio.file.Path;
import java.util.ArrayList;
import java.util.LinkedHashMap;
import java.util.List;
import java.util.Map;
import java.util.TreeMap;
import java.util.regex.Matcher;
import java.util.regex.Pattern;

/**
 * Keeps which sentence of the document is asked about, word by word as it stands there, and whether each
 * answer is as due. At last it reads the document and looks for edges that no sentence here speaks of.
 */
final class Sentences {
  /** What makes a sentence one that names an edge: a refusal, a bound, an emptiness, a tie. */
  private static final Pattern EDGE = Pattern.compile("-\\d|NONE|likewise|[Nn]one such|[Nn]o such|without|\\.\\.|below 0|above 60|"
      + "\\btoo\\b|all the same|nothing|at most|[Nn]o MOOR|no heaps|asked last|ahead of|stay|of several|can not|never|beyond|"
      + "\\bempty\\b|in place of|if none|gone\\)|cut\\b|modulo|by itself|least of|at least|9th|\\(0");

  private static final Map<String, Map<String, Integer>> SAID = new TreeMap<>();
  private static String part = "";
  private static String sentence = "";
  private static int checks = 0;
  private static int wrong = 0;

  private Sentences() {}

  /** From here on it is about a part of the document: a promise's number, or a term's. */
  static void on(String which) {
    part = which;
    SAID.putIfAbsent(part, new LinkedHashMap<>());
    sentence = "";
  }

  static void says(String what) {
    sentence = what;
    SAID.get(part).putIfAbsent(what, 0);
  }

  static void due(String call, long got, long want) {
    checks++;
    if (!sentence.isEmpty()) SAID.get(part).merge(sentence, 1, Integer::sum);
    if (got != want) {
      wrong++;
      System.out.println(part + ", '" + sentence + "': " + call + " answered " + got + ", due is " + want);
    }
  }

  // ---- the document

  private static Map<String, String> partsOf(String document) {
    Map<String, String> parts = new LinkedHashMap<>();
    Matcher promise = Pattern.compile("(?ms)^## Promise (\\d+): .*?$(.*?)(?=^## )").matcher(document);
    while (promise.find()) parts.put(promise.group(1), flat(promise.group(2)));
    String terms = document.substring(document.indexOf("## Terms"), document.indexOf("## Promise 1:"));
    Matcher term = Pattern.compile("(?ms)^([IVX]+)\\. (.*?)(?=^[IVX]+\\. |\\z)").matcher(terms);
    while (term.find()) parts.put(term.group(1), flat(term.group(2)));
    return parts;
  }

  private static String flat(String text) {
    return text.replace("```text", " ").replace("```", " ").replaceAll("\\s+", " ").trim();
  }

  private static void fail(String what) {
    wrong++;
    System.out.println(what);
  }

  /** Each sentence asked about stands in the document, and none of it that names an edge is left out. */
  static void compareWith(Path file) throws IOException {
    if (!Files.exists(file)) {
      System.out.println("no " + file + ": the sentences are not compared with it");
      return;
    }
    Map<String, String> parts = partsOf(Files.readString(file));
    if (parts.size() != 83) fail("the document has " + parts.size() + " promises and terms, not 73 and 10");
    for (Map.Entry<String, String> p : parts.entrySet()) {
      Map<String, Integer> said = SAID.getOrDefault(p.getKey(), Map.of());
      List<String> sentences = new ArrayList<>(said.keySet());
      sentences.sort((a, b) -> b.length() - a.length());
      String left = p.getValue();
      for (String s : sentences) {
        if (!p.getValue().contains(s)) fail(p.getKey() + " does not say: " + s);
        else left = left.replace(s, "#");
        if (said.get(s) == 0) fail(p.getKey() + ", no answer was asked for: " + s);
      }
      Matcher edge = EDGE.matcher(left);
      if (edge.find()) fail(p.getKey() + " names an edge ('" + edge.group() + "') that no sentence asks about: " + left);
    }
    for (String p : SAID.keySet()) if (!parts.containsKey(p)) fail("the document has no part " + p);
  }

  static void end() {
    int sentences = 0;
    for (Map<String, Integer> said : SAID.values()) sentences += said.size();
    System.out.println(wrong == 0 ? sentences + " sentences hold, by " + checks + " answers" : wrong + " things are not as due");
    if (wrong != 0) System.exit(1);
  }
}
