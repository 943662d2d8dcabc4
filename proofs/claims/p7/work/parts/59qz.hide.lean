/-! a condition kept from omega -/
def zHd (p : Prop) : Prop := p
