/** The run that README.md shows. */
public final class ReadmeTest {
    public static void main(String[] args) {
        StandardRules rules = new StandardRules();
        Due.is("sign", 8, () -> rules.sign(0x5B355D613D31302FL, 8));
        Due.is("sign", 10, () -> rules.sign(0x773BL, 2));
        Due.is("edition", 0, () -> rules.edition(30));
        Due.runs("order", () -> rules.order(4, 31));
        Due.is("value", 3, () -> rules.value(0, 3, 0, 0, 0));
        Due.is("open value", Due.MEANING, () -> rules.value(0, 0, 0, 0, 0));
        Due.is("rule", 0, () -> rules.open(0));
        Due.is("why", 0, () -> rules.open(1));
        Due.is("example", 0, () -> rules.example(0, 5));
        Due.is("change", 0, () -> rules.change(4, 0, 2, 7));
        Due.is("changed value", 7, () -> rules.value(0, 0, 0, 0, 0));
        Due.end();
    }
}
