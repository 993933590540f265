section C24b

end C24b
