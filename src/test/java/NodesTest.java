public final class NodesTest {
  public static void main(String[] args) {
    Nestprint x = new Nestprint();
    if (x.word(0, 3) != 0) { System.out.println("word(0, 3) is not 0"); System.exit(1); }
  }
}
