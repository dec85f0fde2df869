import java.io.IOException;
import java.nio.charset.StandardCharsets;
import java.nio.file.Files;
import java.nio.file.Path;
import java.util.List;
import java.util.regex.Matcher;
import java.util.regex.Pattern;

/** The rules of LANGUAGE.md that a look at the source can tell; run from the project's root. */
public final class OthersShareRules {
  private static int wrong = 0;

  private static void must(boolean holds, String what) {
    if (!holds) {
      wrong++;
      System.out.println("not so: " + what);
    }
  }

  private static String withoutComments(String source) {
    return source.replaceAll("(?s)/\\*.*?\\*/", "").replaceAll("//[^\n]*", "");
  }

  private static void checkWords(String code) {
    String[] words = {"package", "import", "throw", "throws", "try", "catch", "finally", "synchronized", "assert",
        "volatile", "native", "equals", "hashCode", "toString", "getClass", "System.out", "Exact", "->", "::"};
    for (String word : words) {
      boolean letters = Character.isLetter(word.charAt(0));
      Pattern p = Pattern.compile(letters ? "\\b" + Pattern.quote(word) + "\\b" : Pattern.quote(word));
      must(!p.matcher(code).find(), "no " + word);
    }
    for (int i = 0; i < code.length(); i++) {
      must(code.charAt(i) < 128, "signs are below 128");
    }
  }

  private static void checkMethods(List<String> lines) {
    int begin = -1;
    int indent = 0;
    for (int i = 0; i < lines.size(); i++) {
      String line = lines.get(i);
      Matcher m = Pattern.compile("^( {2,4})[A-Za-z][^=;]*\\((.*)\\) \\{$").matcher(line);
      if (begin < 0 && m.matches() && !line.contains(" class ")) {
        begin = i;
        indent = m.group(1).length();
        must(m.group(2).split(",").length <= 7, "at most 7 parameters: " + line.strip());
      } else if (begin >= 0 && line.equals(" ".repeat(indent) + "}")) {
        must(i - begin <= 60, "at most 60 lines: " + lines.get(begin).strip());
        begin = -1;
      }
    }
  }

  public static void main(String[] args) throws IOException {
    String source = Files.readString(Path.of("src/main/java/OthersShare.java"), StandardCharsets.UTF_8);
    checkWords(withoutComments(source));
    checkMethods(source.lines().toList());
    Matcher classes = Pattern.compile("\\bclass [A-Z]").matcher(withoutComments(source));
    must(classes.results().count() <= 12, "at most 12 classes");
    System.out.println(wrong == 0 ? "within the rules" : wrong + " faults");
    if (wrong != 0) {
      System.exit(1);
    }
  }
}
