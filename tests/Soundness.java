import java.lang.reflect.Array;
import java.lang.reflect.Constructor;
import java.lang.reflect.Field;

/**
 * isSound() tells what is never otherwise as long as the program is right, so here something inside is
 * broken by hand, one thing at a time, and it must tell that.
 */
public final class Soundness extends Bench {
  public static void main(String[] args) throws ReflectiveOperationException {
    anew("a1:1 b1:=a1+1 h20:=b1", 0);
    anew("a1:1 b1:=a1+1 h20:=b1", 1);
    anew("a1:1 b1:=a1+1 h20:=b1", LAST);
    anew("a1:1 b1:=a1+1 h20:=b1", 77);
    circles();
    levels();
    texts();
    end();
  }

  private static Object in(Object on, String name) throws ReflectiveOperationException {
    Field field = on.getClass().getDeclaredField(name);
    field.setAccessible(true);
    return field.get(on);
  }

  private static Object now(Cellweave x) throws ReflectiveOperationException {
    return in(x, "now");
  }

  private static void told(Cellweave x, String what) {
    due(what, x.isSound(), false);
    long d = x.digest();
    edge("digest: 1 if isSound(), otherwise 0");
    Cellweave y = new Cellweave();
    due("the last v", (d - QuestionEdges.digestOf(x)) + "," + (y.digest() - QuestionEdges.digestOf(y)), "0,0");
  }

  private static void anew(String cells, int place) throws ReflectiveOperationException {
    edge("isSound: reckoning the whole sheet anew shows the same at every PLACE");
    Cellweave x = sheet(cells);
    due("first", x.isSound(), true);
    Object shown = Array.get(in(now(x), "shown"), place);
    Field kind = shown.getClass().getDeclaredField("kind");
    kind.setAccessible(true);
    kind.setInt(shown, 3);
    told(x, "another kind at " + place);
  }

  private static void circles() throws ReflectiveOperationException {
    edge("isSound: a CELL shows \"#circle\" just if it lies on a RING or LEANS ON one that does");
    Cellweave x = sheet("a1:1 b1:=a1+1 c1:=b1");
    ((long[]) in(now(x), "leanedOn"))[1] |= 2L;
    told(x, "one on a RING that does not show it");
    edge("isSound: a CELL shows \"#circle\" just if it lies on a RING or LEANS ON one that does");
    Cellweave y = sheet("a1:=a1 b1:5 c1:=a1");
    ((long[]) in(now(y), "leanedOn"))[2] = 0L;
    told(y, "one that shows it and leans on none");
    edge("isSound: a CELL shows \"#circle\" just if it lies on a RING or LEANS ON one that does");
    Cellweave z = sheet("a1:=a1 b1:5");
    ((long[]) in(now(z), "leanedOn"))[0] = 0L;
    told(z, "the first one that shows it and is on no RING");
  }

  private static void levels() throws ReflectiveOperationException {
    for (int i = 0; i < 2; i++) {
      edge("isSound: LEVELS of all others are greater than those of what they NEED");
      Cellweave x = sheet("a1:=b1 b1:=c1 c1:7");
      ((int[]) in(now(x), "levels"))[i] -= 1;
      told(x, "the LEVEL of CELL " + i + " is one too small");
    }
  }

  private static void texts() throws ReflectiveOperationException {
    for (int place : new int[] {0, 5, LAST}) {
      edge("isSound: each TEXT of a formula, READ anew, has the same TEXT");
      Cellweave x = sheet("b1:1 f1:7 h19:=b1");
      Object sheet = in(in(x, "history"), "sheets");
      Object cell = cellOf(2, new int[] {25, 43, 43});
      for (int i = 0; i < Array.getLength(sheet); i++) {
        Array.set(in(Array.get(sheet, i), "cells"), place, cell);
      }
      x.lock(9, true);
      due("TEXT", x.text(place) + x.value(place), "=TTtrue");
      told(x, "a TEXT that cannot be READ at " + place);
    }
  }

  private static Object cellOf(int kind, int[] tokens) throws ReflectiveOperationException {
    Constructor<?> made = Class.forName("Cellweave$Cell").getDeclaredConstructor(int.class, int[].class);
    made.setAccessible(true);
    return made.newInstance(kind, tokens);
  }
}
