import java.nio.charset.StandardCharsets;

/** Compares answers with what is due and tells every one that differs. */
final class Check {
    private int wrong;
    private int asked;
    private String sentence = "";

    /** The document's sentence that the answers from here on are due by. */
    void says(String words) {
        sentence = "\"" + words + "\": ";
    }

    void due(String call, long got, long want) {
        asked++;
        if (got != want) {
            wrong++;
            if (wrong <= 50) {
                System.out.println(sentence + call + " answered " + got + ", due is " + want);
            }
        }
    }

    void holds(String what, boolean is) {
        due(what, is ? 1 : 0, 1);
    }

    int wrong() {
        return wrong;
    }

    void end(String name) {
        System.out.println(name + ": " + asked + " answers, " + wrong + " not as due");
        if (wrong != 0) {
            System.exit(1);
        }
    }

    /** Types a text on the tape, eight bytes at a time; the last answer of type. */
    static int typed(TurnDoor door, String text) {
        byte[] bytes = text.getBytes(StandardCharsets.ISO_8859_1);
        int answer = 0;
        for (int i = 0; i < bytes.length; i += 8) {
            int n = Math.min(8, bytes.length - i);
            long w = 0;
            for (int k = 0; k < n; k++) {
                w = w << 8 | bytes[i + k] & 255;
            }
            answer = door.type(w, n);
        }
        return answer;
    }

    static TurnDoor withPeople(String text) {
        TurnDoor door = new TurnDoor();
        typed(door, text);
        door.people();
        return door;
    }

    /** People by calls of person, so that what is tested does not hang on the tape; settings as what, v, what, v .. */
    static TurnDoor door(String people, int... settings) {
        TurnDoor door = new TurnDoor();
        come(door, people);
        for (int i = 0; i + 1 < settings.length; i += 2) {
            door.set(settings[i], settings[i + 1]);
        }
        return door;
    }

    static void come(TurnDoor door, String people) {
        if (people.isEmpty()) {
            return;
        }
        for (String one : people.split(";")) {
            int letters = one.length() - 2;
            door.person(Integer.parseInt(one.substring(0, letters)), "sh".indexOf(one.charAt(letters)),
                "wbtchd".indexOf(one.charAt(letters + 1)));
        }
    }
}
