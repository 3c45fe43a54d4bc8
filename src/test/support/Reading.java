import java.util.ArrayList;
import java.util.List;

/** A slow second reading of the document, on texts and patterns, that tests hold the class against. */
final class Reading {
    String tape = "";
    String input = "";
    List<String> words = new ArrayList<>();
    int fault = 0;

    int arrive() {
        String both = input + tape;
        tape = "";
        if (both.length() > 65536) {
            return -1;
        }
        input = both;
        return input.length();
    }

    int cut() {
        fault = 0;
        words = new ArrayList<>();
        List<String> found = new ArrayList<>();
        int used = input.startsWith("*") ? counted(found) : plain(found);
        if (used < 0) {
            fault = used == -1 ? 0 : -used - 1;
            return used == -1 ? -1 : -2;
        }
        input = input.substring(used);
        words = found;
        return words.size();
    }

    /** The place behind, -1 for bytes that are missing, or -1 less the fault. */
    private int counted(List<String> found) {
        String rest = input;
        String line = line(rest, -999999, 1024);
        if (line == null) {
            return -1;
        }
        if (line.isEmpty()) {
            return -2;
        }
        rest = rest.substring(line.length() + 2);
        for (int left = Integer.parseInt(line.substring(1)); left > 0; left--) {
            if (rest.isEmpty()) {
                return -1;
            }
            if (!rest.startsWith("$")) {
                return -3;
            }
            line = line(rest, 0, 16384);
            if (line == null) {
                return -1;
            }
            if (line.isEmpty()) {
                return -4;
            }
            rest = rest.substring(line.length() + 2);
            int size = Integer.parseInt(line.substring(1));
            String tail = rest.length() > size ? rest.substring(size) : "";
            if (!tail.startsWith("\r\n")) {
                return tail.isEmpty() || tail.equals("\r") ? -1 : -5;
            }
            found.add(rest.substring(0, size));
            rest = tail.substring(2);
        }
        return input.length() - rest.length();
    }

    /** The LINE without its CR LF, null while it waits for more, "" when it is a fault. */
    private static String line(String rest, int least, int most) {
        String head = rest.substring(0, Math.min(16, rest.length()));
        int stop = head.indexOf("\r\n");
        if (stop < 0) {
            return head.length() == 16 ? "" : null;
        }
        String line = head.substring(0, stop);
        if (!line.matches("(?s).-?[0-9]{1,6}")) {
            return "";
        }
        int number = Integer.parseInt(line.substring(1));
        return number < least || number > most ? "" : line;
    }

    private int plain(List<String> found) {
        int stop = input.indexOf('\n');
        if (stop < 0 ? input.length() >= 2048 : stop >= 2048) {
            return -6;
        }
        if (stop < 0) {
            return -1;
        }
        String line = input.substring(0, stop);
        if (line.endsWith("\r")) {
            line = line.substring(0, line.length() - 1);
        }
        for (String part : line.split(" ")) {
            if (!part.isEmpty()) {
                found.add(part);
            }
        }
        return stop + 1;
    }

    int size(int w) {
        return w >= 0 && w < words.size() ? words.get(w).length() : -1;
    }

    int byteOf(int w, int i) {
        return i >= 0 && i < size(w) ? words.get(w).charAt(i) : -1;
    }

    boolean drop(int n) {
        if (n < 0 || n > input.length()) {
            return false;
        }
        input = input.substring(n);
        return true;
    }
}
