/** Pieces of texts that several tests are made of. */
final class Texts {
    private Texts() {
    }

    static String nested(String head, int times, String inner) {
        return Probe.repeated(head, times) + inner + Probe.repeated("}", times);
    }

    static String declarations(String name, int n, String size) {
        StringBuilder text = new StringBuilder();
        for (int k = 0; k < n; k++) {
            text.append(k % 2 == 0 ? "sec " : "pub ").append(name).append(k).append(size).append("; ");
        }
        return text.toString();
    }

    static String parameters(int n) {
        StringBuilder text = new StringBuilder();
        for (int k = 0; k < n; k++) {
            text.append(k == 0 ? "pub p" : ", pub p").append(k);
        }
        return text.toString();
    }

    static String functions(int n) {
        StringBuilder text = new StringBuilder();
        for (int k = 0; k < n; k++) {
            text.append("fun pub f").append(k).append("() { return 1; } ");
        }
        return text.toString();
    }
}
