/** Numbers that look drawn and are the same in each run. */
final class Draw {
  private long state;

  Draw(long seed) {
    state = seed * 7919 + 13;
  }

  int below(int bound) {
    state = state * 6364136223846793005L + 1442695040888963407L;
    return (int) Math.floorMod(state >>> 33, (long) bound);
  }

  int between(int low, int high) {
    return low + below(high - low + 1);
  }
}
