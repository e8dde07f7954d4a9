section XLO
variable {L i : Nat} {xs : Nat → Int32} {h : xh_H} {c s : Nat}
end XLO
