import java.util.ArrayList;
import java.util.Arrays;
import java.util.Collections;
import java.util.HashMap;
import java.util.List;
import java.util.Map;
import java.util.Random;
import java.util.regex.Matcher;
import java.util.regex.Pattern;

/** Texts of books by chance, sound or spoilt. */
final class Texts {
    private static final String[] KINDS = {"plain", "child", "foreign", "double", "king", "foreign", "plain"};

    // Words of lines that may be names all the same, and some that are nearly words of lines.
    private static final List<String> ODD_NAMES = List.of("on", "to", "from", "until", "days", "plain", "king", "double",
            "foreign", "credit", "honour", "worth", "fine", "effort", "hour", "towns", "siz", "abcdefgh", "abcdefgi", "z");
    private static final Pattern TOKEN = Pattern.compile("[a-z]+|[0-9]+|[^ ]");

    private Texts() {
    }

    private static String some(Random r, int least, int most) {
        return String.valueOf(least + r.nextInt(most - least + 1));
    }

    /** Small names, so that much goes on a tape; sound but for lendings that can't be. */
    private static List<String> lines(Random r) {
        int days = r.nextInt(4) == 0 ? 1 + r.nextInt(20) : 1 + r.nextInt(4);
        int works = r.nextInt(6);
        int masks = 1 + r.nextInt(6);
        int persons = 1 + r.nextInt(6);
        int base = 1 + r.nextInt(7);
        List<String> lines = new ArrayList<>();
        lines.add("town days " + days);
        if (works > 0) {
            lines.add("work " + String.join(",", Arrays.copyOf(new String[] {"a", "b", "c", "d", "e"}, works)));
        }
        for (int m = 0; m < masks; m++) {
            lines.add("mask m" + (char) ('a' + m) + " " + KINDS[r.nextInt(7)] + " size " + some(r, base, base + 2)
                    + " credit " + some(r, 0, 99));
        }
        for (int p = 0; p < persons; p++) {
            String line = "person p" + (char) ('a' + p) + " size " + some(r, base, base + 2) + " honour " + some(r, 0, 99)
                    + (r.nextInt(3) == 0 ? " child" : "") + (r.nextInt(2) == 0 ? " habit " + some(r, 1, 2) : "");
            if (works > 0 && r.nextInt(4) > 0) {
                List<String> does = new ArrayList<>();
                for (int w = 0; w < works; w++) {
                    if (r.nextBoolean()) {
                        does.add(String.valueOf((char) ('a' + w)));
                    }
                }
                line += does.isEmpty() ? "" : " does " + String.join(",", does);
            }
            lines.add(line);
        }
        // Some towns have all that there is room for, of one sort at least.
        boolean full = r.nextInt(3) == 0;
        int more = full ? 30 : r.nextInt(16);
        int sort = r.nextInt(9);
        for (int i = 0; i < more; i++) {
            String mask = "m" + (char) ('a' + r.nextInt(masks));
            String other = "m" + (char) ('a' + r.nextInt(masks));
            String person = "p" + (char) ('a' + r.nextInt(persons));
            String day = some(r, 1, days);
            switch (r.nextInt(3) == 0 || full && i > 4 ? sort : r.nextInt(9)) {
                case 0, 1 -> {
                    if (works > 0) {
                        lines.add("promise " + mask + " " + (char) ('a' + r.nextInt(works)) + " on " + day + " worth "
                                + some(r, 0, 12) + " fine " + some(r, 0, 12) + " effort " + some(r, 0, 8));
                    }
                }
                case 2, 3 -> lines.add("lent " + mask + " to " + person + " from " + day + " until "
                        + some(r, Integer.parseInt(day), days));
                case 4, 5, 6 -> lines.add("seen " + mask + " on " + day + " hour " + some(r, 4, 6) + " size "
                        + some(r, base, base + 2) + (r.nextInt(3) == 0 ? " habit " + some(r, 1, 2) : ""));
                case 7 -> {
                    if (!mask.equals(other)) {
                        lines.add("letter " + mask + " to " + other + " on " + day);
                    }
                }
                default -> lines.add("break " + person + " on " + day);
            }
        }
        return lines;
    }

    private static boolean isSound(List<String> lines) {
        String text = String.join(";", lines);
        LentMasks x = new LentMasks();
        return text.length() <= 900 && Town.book(x, text) >= 0;
    }

    /** Lines that make a text faulty, or too long, are left out; BookTest sees to it that sound ones aren't refused. */
    static String sound(Random r) {
        List<String> told = new ArrayList<>();
        List<String> open = lines(r);
        int firm = (int) open.stream().filter(l -> l.matches("(town|work|mask|person) .*")).count();
        told.addAll(open.subList(0, firm));
        for (String line : open.subList(firm, open.size())) {
            told.add(line);
            if (!isSound(told)) {
                told.remove(told.size() - 1);
            }
        }
        return String.join(";", told);
    }

    /** The same town by other names, with noughts ahead of wholes, and blanks only here and there. */
    static String dressed(String text, Random r) {
        List<String> names = new ArrayList<>(ODD_NAMES);
        Collections.shuffle(names, r);
        Map<String, String> chosen = new HashMap<>();
        StringBuilder s = new StringBuilder();
        Matcher m = TOKEN.matcher(text);
        while (m.find()) {
            String token = m.group();
            if (token.matches("[mp][a-f]|[a-e]")) {
                if (!chosen.containsKey(token)) {
                    chosen.put(token, names.remove(0));
                }
                token = chosen.get(token);
            } else if (token.matches("[0-9]{1,2}") && r.nextInt(4) == 0) {
                token = "0" + token;
            }
            s.append(" ".repeat(r.nextInt(4) == 0 ? r.nextInt(3) : 0));
            s.append(s.length() > 0 && runTogether(s.charAt(s.length() - 1), token.charAt(0)) ? " " : "").append(token);
        }
        s.append(" ".repeat(r.nextInt(3)));
        return s.length() > 900 ? s.substring(0, 900) : s.toString();
    }

    private static boolean runTogether(char a, char b) {
        return Character.isLetter(a) && Character.isLetter(b) || Character.isDigit(a) && Character.isDigit(b);
    }

    static String spoilt(String text, Random r) {
        String s = text;
        int times = 1 + r.nextInt(3);
        for (int i = 0; i < times && !s.isEmpty(); i++) {
            s = spoiltOnce(s, r);
        }
        return s.length() > 900 ? s.substring(0, 900) : s;
    }

    private static String spoiltOnce(String s, Random r) {
        List<String> lines = new ArrayList<>(Arrays.asList(s.split(";", -1)));
        int line = r.nextInt(lines.size());
        int at = r.nextInt(s.length());
        switch (r.nextInt(9)) {
            case 0:
                return s.substring(0, at) + "abmnp0129;, ,zQ~".charAt(r.nextInt(16)) + s.substring(at + 1);
            case 1:
                return s.substring(0, at) + s.substring(at + 1);
            case 2:
                return s.substring(0, at) + " ;,a19".charAt(r.nextInt(6)) + s.substring(at);
            case 3:
                return s.substring(0, at);
            case 4:
                lines.remove(line);
                return String.join(";", lines);
            case 5:
                lines.add(r.nextInt(lines.size() + 1), lines.get(line));
                return String.join(";", lines);
            case 6:
                Collections.swap(lines, line, r.nextInt(lines.size()));
                return String.join(";", lines);
            case 7:
                String[] words = s.split("(?<=[ ;,])|(?=[ ;,])");
                String word = words[r.nextInt(words.length)];
                words[r.nextInt(words.length)] = word;
                return String.join("", words);
            default:
                int times = 1 + r.nextInt(13);
                for (int i = 0; i < times; i++) {
                    lines.add(lines.get(line));
                }
                return String.join(";", lines);
        }
    }
}
