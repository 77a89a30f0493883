/** Counts and prints the answers that are not the ones that are due. */
final class Checks {
    private int asked = 0;
    private int wrong = 0;

    void due(String call, long got, long want) {
        asked++;
        if (got != want) {
            wrong++;
            System.out.println(call + " answered " + got + ", due is " + want);
        }
    }

    /** Ends the program, with exit code 1 if an answer was wrong. */
    void end(String name) {
        System.out.println(name + ": " + asked + " answers, " + wrong + " wrong");
        if (wrong != 0 || asked == 0) {
            System.exit(1);
        }
    }

    /** Puts a text on the pad, eight characters a call at most. Returns the last answer. */
    static int write(StickRests stick, String text) {
        int answer = 0;
        for (int start = 0; start < text.length(); start += 8) {
            answer = stick.put(number(text.substring(start, Math.min(text.length(), start + 8))));
        }
        return answer;
    }

    /** The number by which put() is given one to eight characters. */
    static long number(String characters) {
        long number = 0;
        for (int i = 0; i < characters.length(); i++) {
            number = number << 8 | characters.charAt(i);
        }
        return number;
    }
}
