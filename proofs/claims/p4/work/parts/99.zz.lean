section XZZ
end XZZ
