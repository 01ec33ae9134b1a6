import java.math.BigInteger;

/** Makes objects with things on their shelves, and tells what stands on a shelf. */
abstract class Shelves {
  static final int REFUSED = -9;
  static final int MOST = 20;

  static final int FORTH = 0;
  static final int BACK = 1;

  static final int ANY = 0;
  static final int UNLIKE = 1;
  static final int NEVER = 2;

  /** Something done with an object. */
  interface Use {
    void of(Ownshelf x);
  }

  /** A new object whose shelf 0 is made so, with these things. */
  static Ownshelf with(int walk, int rule, int limit, boolean isGiving, int... things) {
    Ownshelf x = new Ownshelf();
    x.make(0, walk, rule, limit, isGiving);
    put(x, 0, things);
    return x;
  }

  static Ownshelf with(int... things) {
    return with(FORTH, ANY, MOST, true, things);
  }

  static Ownshelf withBack(int... things) {
    return with(BACK, ANY, MOST, true, things);
  }

  static Ownshelf withKept(int... things) {
    return with(FORTH, ANY, MOST, false, things);
  }

  /** 20 THINGS, 30 to 49. */
  static Ownshelf full() {
    return with(rising(30, MOST));
  }

  static Ownshelf fullBack() {
    return withBack(rising(30, MOST));
  }

  /** The same object, with these THINGS on shelf 1. */
  static Ownshelf and(Ownshelf x, int... things) {
    put(x, 1, things);
    return x;
  }

  static void put(Ownshelf x, int shelf, int... things) {
    for (int thing : things) {
      x.add(shelf, thing);
    }
  }

  static int[] rising(int from, int many) {
    int[] things = new int[many];
    for (int k = 0; k < many; k++) {
      things[k] = from + k;
    }
    return things;
  }

  /** ASKS, STEPS, AWAYS, ADDS, SIZES. */
  static String counts(Ownshelf x, int shelf) {
    StringBuilder text = new StringBuilder();
    for (int what = 0; what < 5; what++) {
      text.append(what == 0 ? "" : " ").append(x.count(shelf, what));
    }
    return text.toString();
  }

  /** ASKS, STEPS and AWAYS alone. */
  static String walked(Ownshelf x, int shelf) {
    return x.count(shelf, 0) + " " + x.count(shelf, 1) + " " + x.count(shelf, 2);
  }

  static String row(Ownshelf x, int shelf) {
    StringBuilder text = new StringBuilder();
    for (int place = 0; place < x.ofShelf(shelf, 0); place++) {
      text.append(place == 0 ? "" : " ").append(x.thing(shelf, place));
    }
    return text.toString();
  }

  /** How many THINGS, WALK, RULE, LIMIT, whether it GIVES AWAY. */
  static String traits(Ownshelf x, int shelf) {
    StringBuilder text = new StringBuilder();
    for (int what = 0; what < 5; what++) {
      text.append(what == 0 ? "" : " ").append(x.ofShelf(shelf, what));
    }
    return text.toString();
  }

  static String house(Ownshelf x) {
    StringBuilder text = new StringBuilder();
    for (int what = 0; what < 5; what++) {
      text.append(what == 0 ? "" : " ").append(x.house(what));
    }
    return text.toString();
  }

  /** A digest that does not wrap around. TEXTS are given, as asking for them counts. */
  static BigInteger unwrapped(Ownshelf x, int sound, String... texts) {
    BigInteger d = BigInteger.valueOf(7786);
    for (int what = 0; what < 5; what++) {
      d = next(d, x.house(what));
    }
    for (int shelf = 0; shelf < 4; shelf++) {
      for (int k = 0; k < 10; k++) {
        d = next(d, k < 5 ? x.ofShelf(shelf, k) : x.count(shelf, k - 5));
      }
      for (int place = 0; place < x.ofShelf(shelf, 0); place++) {
        d = next(d, x.thing(shelf, place));
      }
      d = next(d, x.isHeld(shelf) ? 1 : 0);
      for (char sign : texts[shelf].toCharArray()) {
        d = next(d, sign);
      }
    }
    return next(d, sound);
  }

  static BigInteger next(BigInteger d, int v) {
    return d.multiply(BigInteger.valueOf(31)).add(BigInteger.valueOf(v));
  }
}
