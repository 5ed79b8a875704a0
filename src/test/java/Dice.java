/** Numbers that look like chance but are always the same. */
final class Dice {
    private long seed;

    Dice(long seed) {
        this.seed = seed;
    }

    int below(int limit) {
        seed = seed * 6364136223846793005L + 1442695040888963407L;
        return (int) ((seed >>> 33) % limit);
    }

    String row(String characters, int size) {
        StringBuilder made = new StringBuilder();
        for (int i = 0; i < size; i++) {
            made.append(characters.charAt(below(characters.length())));
        }
        return made.toString();
    }
}
