import java.util.ArrayList;
import java.util.LinkedHashMap;
import java.util.List;
import java.util.Map;
import java.util.regex.Matcher;
import java.util.regex.Pattern;

/** The sentences of ../shared/DOC.md, by the places where they stand. */
final class Document {
    private static final Pattern PROMISE = Pattern.compile("## Promise (\\d+): .*");
    private static final Pattern SECTION = Pattern.compile("(\\d)\\. [A-Z]+");

    private final Map<String, List<String>> sentences = new LinkedHashMap<>();
    private String place = "title";

    Document(List<String> lines) {
        for (String line : lines) {
            if (!isHeading(line) && !line.isBlank() && !line.startsWith("```")) {
                addLine(line.strip());
            }
        }
    }

    List<String> places() {
        return new ArrayList<>(sentences.keySet());
    }

    List<String> sentencesOf(String place) {
        return sentences.getOrDefault(place, List.of());
    }

    private boolean isHeading(String line) {
        Matcher promise = PROMISE.matcher(line);
        Matcher section = SECTION.matcher(line);
        if (promise.matches()) {
            place = "promise" + promise.group(1);
        } else if (section.matches()) {
            place = "section" + section.group(1);
        } else if (line.startsWith("#")) {
            place = line.replaceAll("^#+ ", "");
        } else {
            return false;
        }
        return true;
    }

    private void addLine(String line) {
        // These paragraphs stand behind section 6 without a heading of their own.
        if (line.startsWith("The constants: ")) {
            place = "constants";
        } else if (line.startsWith("Ahead of the calls ")) {
            place = "interface";
        }
        for (String item : line.replaceAll("^- ", "").split("\\s{2,}- ")) {
            for (String sentence : item.split("(?<=\\.)\\s+(?=[A-Z(])")) {
                sentences.computeIfAbsent(place, none -> new ArrayList<>()).add(sentence);
            }
        }
    }
}
