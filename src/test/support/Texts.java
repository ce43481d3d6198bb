import java.util.Random;

/** Laws and stories by chance, and spoilt ones. */
final class Texts {
    private Texts() {
    }

    private static int of(Random random, int... choice) {
        return choice[random.nextInt(choice.length)];
    }

    private static String blanks(Random random) {
        return random.nextInt(8) == 0 ? " ".repeat(random.nextInt(4)) : "";
    }

    static String law(Random random) {
        StringBuilder text = new StringBuilder();
        int many = random.nextInt(20) == 0 ? 23 + random.nextInt(3) : random.nextInt(14);
        for (int i = 0; i < many; i++) {
            text.append(blanks(random)).append(clause(random)).append(blanks(random)).append(';');
        }
        text.append(blanks(random));
        return text.length() > 400 ? text.substring(0, 400) : text.toString();
    }

    private static String clause(Random random) {
        int sort = random.nextInt(4);
        switch (random.nextInt(11)) {
            case 0:
                return "hold " + sort + " " + of(random, 16, 15, 14, 12, 8, 3, 0);
            case 1:
                return "wash " + of(random, 0, 4, 8, 15, 16);
            case 2, 3:
                return "pass " + random.nextInt(9);
            case 4:
                return "take " + (1 + random.nextInt(15));
            case 5:
                return "alike " + sort + " " + (sort + 1 + random.nextInt(6));
            case 6:
                return "common " + sort + " " + random.nextInt(21);
            default:
                return "shed " + random.nextInt(3) + " " + sort + " " + of(random, 0, 1, 5, 9, 16, 33, 60, 200);
        }
    }

    static String story(Random random) {
        StringBuilder text = new StringBuilder();
        int many = random.nextInt(20) == 0 ? 19 + random.nextInt(3) : random.nextInt(14);
        int hour = 0;
        for (int i = 0; i < many; i++) {
            hour += random.nextInt(3) == 0 ? random.nextInt(random.nextInt(9) == 0 ? 40 : 4) : 0;
            text.append(blanks(random)).append(event(random)).append(blanks(random)).append(" at ").append(blanks(random));
            text.append(Math.min(hour, 99)).append(blanks(random)).append(';');
        }
        text.append(blanks(random));
        return text.length() > 300 ? text.substring(0, 300) : text.toString();
    }

    private static String event(Random random) {
        int place = random.nextInt(4);
        switch (random.nextInt(10)) {
            case 0, 1, 2:
                return "wear " + place + " " + random.nextInt(3);
            case 3:
                return "bare " + place;
            case 4:
                return "wash " + place;
            case 5:
                return "shake " + place + " " + of(random, 0, 1, 8, 15, 16);
            default:
                return "touch " + place + " " + (place + 1 + random.nextInt(3)) % 4;
        }
    }

    /** Now and then a byte is put in, taken out or changed. */
    static String spoilt(Random random, String text) {
        StringBuilder spoilt = new StringBuilder(text);
        for (int i = random.nextInt(3); i > 0 && spoilt.length() > 0; i--) {
            int at = random.nextInt(spoilt.length());
            char sign = "0123456789 ;abehorstw".charAt(random.nextInt(21));
            switch (random.nextInt(4)) {
                case 0 -> spoilt.deleteCharAt(at);
                case 1 -> spoilt.insert(at, sign);
                case 2 -> spoilt.setCharAt(at, (char) random.nextInt(256));
                default -> spoilt.setCharAt(at, sign);
            }
        }
        return spoilt.length() > 300 ? spoilt.substring(0, 300) : spoilt.toString();
    }
}
