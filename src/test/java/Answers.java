import java.util.ArrayList;
import java.util.List;
import java.util.function.LongSupplier;
import java.util.function.Supplier;

/** All that can be asked of a moor without a change: two objects that are alike answer alike, in any order. */
final class Answers {
  private final List<String> names = new ArrayList<>();
  private final List<LongSupplier> calls = new ArrayList<>();

  private Answers(TurfHeaps x) {
    for (int day = 0; day <= x.count(0); day++) ofDay(x, day);
    ofAllDays(x);
    ofRows(x);
    ofCarts(x);
  }

  private void put(String name, LongSupplier call) {
    names.add(name);
    calls.add(call);
  }

  private void ofDay(TurfHeaps x, int day) {
    for (int i = 0; i < 4; i++) {
      int at = i;
      put("heap(" + day + ", " + i + ")", () -> x.heap(day, at));
      put("flip(" + day + ", " + i + ")", () -> x.flip(day, at));
      put("many(" + day + ", " + (i + 1) + ")", () -> x.many(day, at + 1));
    }
    put("heaps(" + day + ")", () -> x.heaps(day));
    put("all(" + day + ")", () -> x.all(day));
    put("sorts(" + day + ")", () -> x.sorts(day));
    put("spread(" + day + ")", () -> x.spread(day));
    put("odd(" + day + ")", () -> x.odd(day));
    put("taken(" + day + ")", () -> x.taken(day));
    put("gone(" + day + ")", () -> x.gone(day));
    put("same(" + day + ")", () -> x.same(day));
    put("stair(" + day + ")", () -> x.stair(day));
    put("square(" + day + ")", () -> x.square(day));
    put("even(" + day + ")", () -> x.even(day));
    put("above(" + day + ", 0)", () -> x.above(day, 0));
    put("tail(" + day + ")", () -> x.tail(day));
    put("length(" + day + ")", () -> x.length(day));
    put("ring(" + day + ")", () -> x.ring(day));
    put("later(" + day + ", 5, 0)", () -> x.later(day, 5, 0));
    put("soon(" + day + ")", () -> x.soon(day));
    put("bring(" + day + ", 4)", () -> x.bring(day, 4));
    put("wins(" + day + ", 3)", () -> x.wins(day, 3));
    put("moves(" + day + ", 3)", () -> x.moves(day, 3));
    put("move(" + day + ", 3)", () -> x.move(day, 3));
    put("chance(" + day + ", 3, 0)", () -> x.chance(day, 3, 0));
    put("mean(" + day + ", 0)", () -> x.mean(day, 0));
  }

  private void ofAllDays(TurfHeaps x) {
    put("most()", x::most);
    put("peak()", x::peak);
    put("still()", x::still);
    put("rows()", x::rows);
    put("stairs()", x::stairs);
    put("latest(5)", () -> x.latest(5));
    put("spare()", x::spare);
    for (int law = 0; law < 4; law++) {
      int by = law;
      put("by(" + law + ")", () -> x.by(by));
    }
    put("law()", x::law);
    put("drawn(1, 0)", () -> x.drawn(1, 0));
    put("drawn(1, 1)", () -> x.drawn(1, 1));
    put("luck(0, 20, 3)", () -> x.luck(0, 20, 3));
    for (int what = 0; what < 9; what++) {
      int counted = what;
      put("count(" + what + ")", () -> x.count(counted));
    }
  }

  private void ofRows(TurfHeaps x) {
    put("ringed(6)", () -> x.ringed(6));
    put("rings(6)", () -> x.rings(6));
    put("gardens(6)", () -> x.gardens(6));
    put("longest(6)", () -> x.longest(6));
    put("ahead(0)", () -> x.ahead(0));
    put("from(0, 0)", () -> x.from(0, 0));
    put("way(0)", () -> x.way(0));
    put("laws(0)", () -> x.laws(0));
    for (int heap = 0; heap < 3; heap++) {
      int h = heap;
      put("told(" + heap + ")", () -> x.told(h));
      put("heights(0, " + heap + ")", () -> x.heights(0, h));
      put("least(0, " + heap + ")", () -> x.least(0, h));
      put("greatest(0, " + heap + ")", () -> x.greatest(0, h));
      put("ask(0, " + heap + ")", () -> x.ask(0, h));
      put("leaves(0, " + heap + ")", () -> x.leaves(0, h));
    }
  }

  private void ofCarts(TurfHeaps x) {
    for (int set = 0; set < 4; set++) {
      int s = set;
      put("worth(" + set + ")", () -> x.worth(s));
      put("gets(0, 1, " + (set & 1) + ", " + (set >> 1) + ", 0)", () -> x.gets(0, 1, s & 1, s >> 1, 0));
      put("gets(0, 1, " + (set & 1) + ", " + (set >> 1) + ", 1)", () -> x.gets(0, 1, s & 1, s >> 1, 1));
    }
    for (int cart = 0; cart < 2; cart++) {
      int c = cart;
      put("cart(" + cart + ", 0)", () -> x.cart(c, 0));
      put("cart(" + cart + ", 1)", () -> x.cart(c, 1));
      put("share(" + cart + ", 0)", () -> x.share(c, 0));
      put("share(" + cart + ", 1)", () -> x.share(c, 1));
    }
    put("rests(0, 1)", () -> x.rests(0, 1));
  }

  /**
   * What an object answers that has come to its state by changes, and was asked much, is what one answers
   * that was told so at once, and is asked nothing else: asked on, back, and across.
   */
  static void alike(TurfHeaps x, Supplier<TurfHeaps> told) {
    Answers changed = new Answers(x);
    int size = changed.calls.size();
    Sentences.due("as much can be asked", size, new Answers(told.get()).calls.size());
    long[] due = new long[size];
    for (int i = 0; i < size; i++) due[i] = new Answers(told.get()).calls.get(i).getAsLong();
    for (int i = 0; i < size; i++) changed.ask(i, due);
    for (int i = size - 1; i >= 0; i--) changed.ask(i, due);
    for (int n = 0, i = 0; n < size; n++, i = (i + 89) % size) changed.ask(i, due);
  }

  private void ask(int i, long[] due) {
    Sentences.due(names.get(i), calls.get(i).getAsLong(), due[i]);
  }
}
