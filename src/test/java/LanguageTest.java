import java.nio.file.Files;
import java.nio.file.Path;
import java.util.regex.Matcher;
import java.util.regex.Pattern;

/** What can be seen of LANGUAGE.md's rules in the text of the class; run from the project's folder. */
public final class LanguageTest {
  private static final String[] BARRED = {
    "\\b(throw|throws|try|catch|finally|synchronized|assert|import|package|volatile|transient|native)\\b",
    "->", "::", "\\bvar\\b", "\\b(double|float|Object|System\\.(?!arraycopy))", "Exact\\b",
    "\\bstatic\\s*\\{", "\\bwhile\\s*\\(\\s*true", "for\\s*\\(\\s*;", "@", "\"\\s*\\+", "\\+\\s*\"",
    "\\b(equals|hashCode|toString)\\b", "\\b(?:Math|Integer)\\.(?!max\\b|min\\b|abs\\b|bitCount\\b)"};

  public static void main(String[] args) throws Exception {
    String text = Files.readString(Path.of("src/main/java/TurfHeaps.java"));
    String code = text.replaceAll("(?s)/\\*.*?\\*/", "").replaceAll("//[^\n]*", "");
    int wrong = 0;
    for (char c : text.toCharArray()) if (c > 126) wrong++;
    for (String barred : BARRED) {
      Matcher m = Pattern.compile(barred).matcher(code);
      while (m.find()) {
        wrong++;
        System.out.println("barred: " + m.group() + " near: " + code.substring(Math.max(0, m.start() - 30), Math.min(code.length(), m.end() + 30)));
      }
    }
    // Calls of the document make no objects: what stands in braces of methods never says 'new'.
    Matcher news = Pattern.compile("\\bnew\\b[^;]*;").matcher(code);
    int made = 0;
    while (news.find()) {
      String line = code.substring(code.lastIndexOf('\n', news.start()) + 1, news.end()).trim();
      boolean kept = line.startsWith("private final ") || line.matches("(images|slots|rows)\\[.\\] = new .*");
      if (!kept) {
        wrong++;
        System.out.println("made elsewhere than with the object: " + line);
      }
      made++;
    }
    System.out.println(wrong == 0 ? "nothing barred, " + made + " places that make" : wrong + " things are barred");
    if (wrong != 0) System.exit(1);
  }
}
